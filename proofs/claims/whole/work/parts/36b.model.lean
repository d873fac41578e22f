noncomputable def BX5_feuding_29 (mM_13 : GS) (k17 : Int32 → Option (Int32 × GS)) (rec27 : Int32 → Int32 → Option (Int32 × GS)) (x25 : Int32) (x26 : Int32) : Option (Int32 × GS) := if (mM_13 0 7) ≤ x26 then (k17 x25) else (jn1 (fun (x29 : Int32) => nm (x26 + 1) fun (x31 : Int32) => rec27 x29 x31) (fun k30 => jn0 (k30 (1 : Int32)) (fun k32 => if x25 = 0 then (chkI ((2 : Int32) * x26) 12 (chkI (((2 : Int32) * x26) + (1 : Int32)) 12 (bnd1 (MX5_areBeside mM_13 (mM_13 5 ((2 : Int32) * x26).toNatClampNeg) (mM_13 5 (((2 : Int32) * x26) + (1 : Int32)).toNatClampNeg)) fun (r36 : Int32) => if r36 = 0 then (k30 (0 : Int32)) else (k32)))) else (k32))))
noncomputable def BX5_feuding_18 (i1 : Int32) (k8 : Int32 → GS → Option (Int32 × GS)) (rec14 : Int32 → Int32 → GS → Option (Int32 × GS)) (x11 : Int32) (x12 : Int32) (mM_13 : GS) : Option (Int32 × GS) := if i1 ≤ x12 then (k8 x11 mM_13) else (jn1 (fun (x16 : Int32) => jn1 (fun (x18 : Int32) => nm (x11 + x18) fun (x20 : Int32) => bnd1 (MX5_goNight mM_13) fun (mM_21 : GS) => nm (x12 + 1) fun (x23 : Int32) => rec14 x20 x23 mM_21) (fun k19 => if x16 = 0 then (k19 (0 : Int32)) else (k19 (1 : Int32)))) (fun k17 => lq2 (BX5_feuding_29 mM_13 k17) FU (0 : Int32) (0 : Int32)))
noncomputable def MX5_feuding (mM : GS) (i1 : Int32) : Option (Int32 × GS) := bnd1 (MX5_areDays i1) fun (r1 : Int32) => if r1 = 0 then (some ((-3 : Int32), mM)) else (bnd1 (MX5_putAside mM) fun (mM_4 : GS) => jn2 (fun (x6 : Int32) (mM_7 : GS) => bnd1 (MX5_putBack mM_7) fun (mM_9 : GS) => some (x6, mM_9)) (fun k8 => lq3 (BX5_feuding_18 i1 k8) FU (0 : Int32) (0 : Int32) mM_4))
abbrev rmX5_feuding : Room := { frames := 6, cells := 0, slots := 0, locals := 240 }
set_option maxHeartbeats 4000000 in
set_option maxRecDepth 100000 in
theorem ctX5_feuding (l : Launch) (D : va_G) (Y : Nat → ClassId) (oM : Nat → Nat) (sz : Nat) (mM : GS) (tk : Int64) (i1 : Int32) (rr : Int32) (mMz : GS) (hM : MX5_feuding mM i1 = some (rr, mMz)) : Met l yX5_feuding wsX5_feuding rmX5_feuding (pcW [.ref (oM 0), .int i1] sz D Y (cMod Y oM mM tk)) (qiW rr D (cMod Y oM mMz tk) (va_A (cMod Y oM mM tk) sz)) 0 0 (va_A (cMod Y oM mM tk) sz) := by
  refine Met.ofW (cc := cX5_feuding) (maxL := 6) (ret := (some .int)) (by decide) rfl ?_
  intro p e s m args below meth c s₁ B hml hv
  obtain ⟨rfl, hsz, hP, hK, hD0⟩ := hv
  have hx := B.exec
  have hb := B.bytes
  have hr := B.returns
  have hts := atoms_spec (ws := wsX5_feuding) B.pre
  have hown : s.vm.findClass RX5 = some m.cls := findClass_of_methodNamed B.named
  have hlocks := B.notSynchronized
  subst hsz
  have hD := hD0.self (sz := s.heap.size)
  generalize hAe : va_A (cMod Y oM mM tk) s.heap.size = A at hD ⊢
  have hA : ∀ q : Nat, s.heap.size ≤ q → A q := fun q h => by rw [← hAe]; exact Or.inr h
  have hS : va_S A s.heap s.heap [] := va_S.rf
  have hi5 : ∀ w ∈ wsX50, w ∈ wsX5_feuding := fun w h => List.mem_cons_of_mem _ (List.mem_append_right _ h)
  have hl := lv_entry ([.ref (oM 0), .int i1]) (n := 6) (Nat.le_of_ble_eq_true rfl)
  rw [lg_entry_eq]
  generalize (lg_sl ([.ref (oM 0), .int i1]) ++ List.replicate (6 - (lg_sl ([.ref (oM 0), .int i1])).length) Slot.unset).toArray = ls at hl ⊢
  have hl : lv_has ls 6 [(0, .ref (oM 0)), (1, .int i1)] := hl
  obtain ⟨QQ, hQQ⟩ : ∃ Q : State → Prop, Q = MQ below (qiW rr D (cMod Y oM mMz tk) A) ([.ref (oM 0), .int i1] : List Value).toArray s 0 0 A := ⟨_, rfl⟩
  rw [← hQQ]
  unfold MX5_feuding at hM
  suffices hI : ∀ (H : Heap) (locs : List Loc), va_P D vwCl (cMod Y oM mM tk) H → va_S A s.heap H locs → W p l e (headSpec wsX5_feuding rmX5_feuding).room s m ([.ref (oM 0), .int i1] : List Value).toArray below meth c H locs 0 0 QQ (F0 m 0 ls []) from hI _ _ hP hS
  clear hP hS
  intro H locs hP hS
  refine lv_iload_n hx hb dX5_feuding_0 rfl (lv_at hl 1 rfl) ?_
  obtain ⟨r1, hc2, hM⟩ := bnd1_at hM
  refine cm_i (w2 := (cMod Y oM mM tk)) (va_runS (As := [.int i1]) (rest := []) ⟨hx, hb, hml, hown, hts⟩ (ctX5_areDays l D Y H.size i1 r1 hc2) (cwS 1 hts gX5_feuding_X5_areDays rfl rfl rfl (by decide +kernel) ⟨Nat.le_of_ble_eq_true rfl, Nat.le_of_ble_eq_true rfl⟩) (pcW_S hK hP (hD.same rfl) [] rfl (pc_map pc_nil)) rfl rfl hl.1 rfl (lv_room (Nat.le_of_ble_eq_true rfl)) dX5_feuding_1 ⟨Nat.zero_le _, Nat.zero_le _⟩) hP (hD.same rfl) hS hA [] (pc_map pc_nil) (up_old rfl rfl (up_old rfl rfl (up_old rfl rfl (up_old rfl rfl (up_old rfl rfl (up_old rfl rfl (up_old rfl rfl (up_old rfl rfl (up_old rfl rfl (up_old rfl rfl (up_old rfl rfl (up_old rfl rfl (up_old rfl rfl (up_old rfl rfl (up_old rfl rfl (up_old rfl rfl (up_old rfl rfl (up_old rfl rfl (up_old rfl rfl up_nil))))))))))))))))))) (fun H locs hP hS => ?_)
  refine lv_if_ne (tgt := 10) hx hb dX5_feuding_4 (by decide) (fun c3 => ?_) (fun c3 => ?_)
  · replace hM := if_at_neg hM c3
    refine lv_aload_n hx hb dX5_feuding_10 rfl (lv_at hl 0 rfl) ?_
    obtain ⟨mM_4, hc5, hM⟩ := bnd1_at hM
    refine co_v (va_runV (As := []) (rest := []) ⟨hx, hb, hml, hown, hts⟩ (ctX5_putAside l D Y oM H.size mM tk mM_4 hc5) (cwV 0 hts gX5_feuding_X5_putAside rfl rfl rfl (by decide +kernel) ⟨Nat.le_of_ble_eq_true rfl, Nat.le_of_ble_eq_true rfl⟩) (pcW_V0 (ci := 5) (q0 := 0) hK hP (hD.same rfl) rfl rfl) rfl rfl hl.1 rfl (lv_room (Nat.le_of_ble_eq_true rfl)) dX5_feuding_11 ⟨Nat.zero_le _, Nat.zero_le _⟩) (hD.same rfl) hS hA (fun H locs hP hS => ?_)
    refine lv_iconst (v := (0 : Int32)) hx hb dX5_feuding_14 (by decide) ?_
    refine lv_istore_n (lv' := [(2, .int (0 : Int32)), (0, .ref (oM 0)), (1, .int i1)]) hx hb dX5_feuding_15 rfl hl (by decide) rfl (fun ls hl => ?_)
    refine lv_iconst (v := (0 : Int32)) hx hb dX5_feuding_16 (by decide) ?_
    refine lv_istore_n (lv' := [(3, .int (0 : Int32)), (2, .int (0 : Int32)), (0, .ref (oM 0)), (1, .int i1)]) hx hb dX5_feuding_17 rfl hl (by decide) rfl (fun ls hl => ?_)
    refine jn2_at (fun (x6 : Int32) (mM_7 : GS) => ∀ (H : Heap) (locs : List Loc) (ls : Array Slot), va_P D vwCl (cMod Y oM mM_7 tk) H → va_S A s.heap H locs → lv_has ls 6 [(0, .ref (oM 0)), (2, .int x6)] → W p l e (headSpec wsX5_feuding rmX5_feuding).room s m ([.ref (oM 0), .int i1] : List Value).toArray below meth c H locs 0 0 QQ (F0 m 106 ls [])) hM (fun x6 mM_7 hM H locs ls hP hS hl => ?_) (fun k8 hJ8 hM => ?_)
    · refine lv_aload_n hx hb dX5_feuding_106 rfl (lv_at hl 0 rfl) ?_
      obtain ⟨mM_9, hc10, hM⟩ := bnd1_at hM
      refine co_v (va_runV (As := []) (rest := []) ⟨hx, hb, hml, hown, hts⟩ (ctX5_putBack l D Y oM H.size mM_7 tk mM_9 hc10) (cwV 0 hts gX5_feuding_X5_putBack rfl rfl rfl (by decide +kernel) ⟨Nat.le_of_ble_eq_true rfl, Nat.le_of_ble_eq_true rfl⟩) (pcW_V0 (ci := 5) (q0 := 0) hK hP (hD.same rfl) rfl rfl) rfl rfl hl.1 rfl (lv_room (Nat.le_of_ble_eq_true rfl)) dX5_feuding_107 ⟨Nat.zero_le _, Nat.zero_le _⟩) (hD.same rfl) hS hA (fun H locs hP hS => ?_)
      refine lv_iload_n hx hb dX5_feuding_110 rfl (lv_at hl 1 rfl) ?_
      cases hM
      rw [hQQ]
      exact W.iret hx hb hr (fun t ht hW => ⟨⟨_, (), rfl, rfl, by show va_P D vwCl _ t.heap; rw [ht]; exact hP⟩, hS.F ht⟩) hS.2.2 dX5_feuding_111
    · refine lq3_at (fun (x11 : Int32) (x12 : Int32) (mM_13 : GS) => ∀ (H : Heap) (locs : List Loc) (ls : Array Slot), va_P D vwCl (cMod Y oM mM_13 tk) H → va_S A s.heap H locs → lv_has ls 6 [(0, .ref (oM 0)), (1, .int i1), (2, .int x11), (3, .int x12)] → W p l e (headSpec wsX5_feuding rmX5_feuding).room s m ([.ref (oM 0), .int i1] : List Value).toArray below meth c H locs 0 0 QQ (F0 m 18 ls [])) (fun rec14 x11 x12 mM_13 ih14 hM H locs ls hP hS hl => ?_) FU (0 : Int32) (0 : Int32) mM_4 hM H locs ls hP hS (lv_sub hl [2, 3, 1, 0] rfl)
      unfold BX5_feuding_18 at hM
      refine lv_iload_n hx hb dX5_feuding_18 rfl (lv_at hl 3 rfl) ?_
      refine lv_iload_n hx hb dX5_feuding_19 rfl (lv_at hl 1 rfl) ?_
      refine lv_icmp_ge (tgt := 106) hx hb dX5_feuding_20 (by decide) (fun c15 => ?_) (fun c15 => ?_)
      · replace hM := if_at_pos hM c15
        exact hJ8 x11 mM_13 hM H locs ls hP hS (lv_sub hl [0, 2] rfl)
      · replace hM := if_at_neg hM c15
        refine lv_iconst (v := (0 : Int32)) hx hb dX5_feuding_23 (by decide) ?_
        refine lv_istore (lv' := [(4, .int (0 : Int32)), (0, .ref (oM 0)), (1, .int i1), (2, .int x11), (3, .int x12)]) hx hb dX5_feuding_24 hl (by decide) rfl (fun ls hl => ?_)
        refine lv_iconst (v := (0 : Int32)) hx hb dX5_feuding_26 (by decide) ?_
        refine lv_istore (lv' := [(5, .int (0 : Int32)), (4, .int (0 : Int32)), (0, .ref (oM 0)), (1, .int i1), (2, .int x11), (3, .int x12)]) hx hb dX5_feuding_27 hl (by decide) rfl (fun ls hl => ?_)
        refine jn1_at (fun (x16 : Int32) => ∀ (H : Heap) (locs : List Loc) (ls : Array Slot), va_P D vwCl (cMod Y oM mM_13 tk) H → va_S A s.heap H locs → lv_has ls 6 [(0, .ref (oM 0)), (1, .int i1), (2, .int x11), (3, .int x12), (4, .int x16)] → W p l e (headSpec wsX5_feuding rmX5_feuding).room s m ([.ref (oM 0), .int i1] : List Value).toArray below meth c H locs 0 0 QQ (F0 m 83 ls [])) hM (fun x16 hM H locs ls hP hS hl => ?_) (fun k17 hJ17 hM => ?_)
        · refine lv_iload_n hx hb dX5_feuding_83 rfl (lv_at hl 2 rfl) ?_
          refine lv_iload hx hb dX5_feuding_84 (lv_at hl 4 rfl) ?_
          refine jn1_at (fun (x18 : Int32) => ∀ (H : Heap) (locs : List Loc) (ls : Array Slot), va_P D vwCl (cMod Y oM mM_13 tk) H → va_S A s.heap H locs → lv_has ls 6 [(0, .ref (oM 0)), (1, .int i1), (3, .int x12)] → W p l e (headSpec wsX5_feuding rmX5_feuding).room s m ([.ref (oM 0), .int i1] : List Value).toArray below meth c H locs 0 0 QQ (F0 m 94 ls [.int x18, .int x11])) hM (fun x18 hM H locs ls hP hS hl => ?_) (fun k19 hJ19 hM => ?_)
          · refine lv_iadd hx hb dX5_feuding_94 ?_
            refine lv_topi (fun x20 ex20 => ?_)
            replace hM := nm_at hM ex20
            refine lv_istore_n (lv' := [(2, .int x20), (0, .ref (oM 0)), (1, .int i1), (3, .int x12)]) hx hb dX5_feuding_95 rfl hl (by decide) rfl (fun ls hl => ?_)
            refine lv_aload_n hx hb dX5_feuding_96 rfl (lv_at hl 1 rfl) ?_
            obtain ⟨mM_21, hc22, hM⟩ := bnd1_at hM
            refine co_v (va_runV (As := []) (rest := []) ⟨hx, hb, hml, hown, hts⟩ (ctX5_goNight l D Y oM H.size mM_13 tk mM_21 hc22) (cwV 0 hts gX5_feuding_X5_goNight rfl rfl rfl (by decide +kernel) ⟨Nat.le_of_ble_eq_true rfl, Nat.le_of_ble_eq_true rfl⟩) (pcW_V0 (ci := 5) (q0 := 0) hK hP (hD.same rfl) rfl rfl) rfl rfl hl.1 rfl (lv_room (Nat.le_of_ble_eq_true rfl)) dX5_feuding_97 ⟨Nat.zero_le _, Nat.zero_le _⟩) (hD.same rfl) hS hA (fun H locs hP hS => ?_)
            obtain ⟨x23, ex23⟩ : ∃ z : Int32, z = (x12 + 1) := ⟨_, rfl⟩
            replace hM := nm_at hM ex23
            refine lv_iinc (v := x23) (lv' := [(3, .int x23), (2, .int x20), (0, .ref (oM 0)), (1, .int i1)]) hx hb dX5_feuding_100 hl (k := 3) rfl (by rw [ex23]; rfl) (by decide) rfl (fun ls hl => ?_)
            refine lv_goto (tgt := 18) hx hb dX5_feuding_103 (by decide) ?_
            exact ih14 x20 x23 mM_21 hM H locs ls hP hS (lv_sub hl [2, 3, 1, 0] rfl)
          · refine lv_if_eq (tgt := 93) hx hb dX5_feuding_86 (by decide) (fun c24 => ?_) (fun c24 => ?_)
            · replace hM := if_at_pos hM c24
              refine lv_iconst (v := (0 : Int32)) hx hb dX5_feuding_93 (by decide) ?_
              exact hJ19 (0 : Int32) hM H locs ls hP hS (lv_sub hl [0, 1, 3] rfl)
            · replace hM := if_at_neg hM c24
              refine lv_iconst (v := (1 : Int32)) hx hb dX5_feuding_89 (by decide) ?_
              refine lv_goto (tgt := 94) hx hb dX5_feuding_90 (by decide) ?_
              exact hJ19 (1 : Int32) hM H locs ls hP hS (lv_sub hl [0, 1, 3] rfl)
        · refine lq2_at (fun (x25 : Int32) (x26 : Int32) => ∀ (H : Heap) (locs : List Loc) (ls : Array Slot), va_P D vwCl (cMod Y oM mM_13 tk) H → va_S A s.heap H locs → lv_has ls 6 [(0, .ref (oM 0)), (1, .int i1), (2, .int x11), (3, .int x12), (4, .int x25), (5, .int x26)] → W p l e (headSpec wsX5_feuding rmX5_feuding).room s m ([.ref (oM 0), .int i1] : List Value).toArray below meth c H locs 0 0 QQ (F0 m 29 ls [])) (fun rec27 x25 x26 ih27 hM H locs ls hP hS hl => ?_) FU (0 : Int32) (0 : Int32) hM H locs ls hP hS (lv_sub hl [2, 3, 4, 5, 1, 0] rfl)
          unfold BX5_feuding_29 at hM
          refine lv_iload hx hb dX5_feuding_29 (lv_at hl 5 rfl) ?_
          refine lv_aload_n hx hb dX5_feuding_31 rfl (lv_at hl 0 rfl) ?_
          refine va_get hx hb hts hi5 hown hK hP 0 rfl rfl 7 (by decide) (hts (.fieldLink RX5 88 "NightPlotsModel" "feuds" "I") (List.mem_of_getElem? (i := 1) rfl)) (fun _ h9 => h9) rfl dX5_feuding_32 ?_
          refine lv_icmp_ge (tgt := 83) hx hb dX5_feuding_35 (by decide) (fun c28 => ?_) (fun c28 => ?_)
          · replace hM := if_at_pos hM c28
            exact hJ17 x25 hM H locs ls hP hS (lv_sub hl [0, 1, 2, 3, 4] rfl)
          · replace hM := if_at_neg hM c28
            refine lv_iload hx hb dX5_feuding_38 (lv_at hl 4 rfl) ?_
            refine jn1_at (fun (x29 : Int32) => ∀ (H : Heap) (locs : List Loc) (ls : Array Slot), va_P D vwCl (cMod Y oM mM_13 tk) H → va_S A s.heap H locs → lv_has ls 6 [(0, .ref (oM 0)), (1, .int i1), (2, .int x11), (3, .int x12), (5, .int x26)] → W p l e (headSpec wsX5_feuding rmX5_feuding).room s m ([.ref (oM 0), .int i1] : List Value).toArray below meth c H locs 0 0 QQ (F0 m 75 ls [.int x29])) hM (fun x29 hM H locs ls hP hS hl => ?_) (fun k30 hJ30 hM => ?_)
            · refine lv_istore (lv' := [(4, .int x29), (0, .ref (oM 0)), (1, .int i1), (2, .int x11), (3, .int x12), (5, .int x26)]) hx hb dX5_feuding_75 hl (by decide) rfl (fun ls hl => ?_)
              obtain ⟨x31, ex31⟩ : ∃ z : Int32, z = (x26 + 1) := ⟨_, rfl⟩
              replace hM := nm_at hM ex31
              refine lv_iinc (v := x31) (lv' := [(5, .int x31), (4, .int x29), (0, .ref (oM 0)), (1, .int i1), (2, .int x11), (3, .int x12)]) hx hb dX5_feuding_77 hl (k := 5) rfl (by rw [ex31]; rfl) (by decide) rfl (fun ls hl => ?_)
              refine lv_goto (tgt := 29) hx hb dX5_feuding_80 (by decide) ?_
              exact ih27 x29 x31 hM H locs ls hP hS (lv_sub hl [2, 3, 4, 5, 1, 0] rfl)
            · refine jn0_at (∀ (H : Heap) (locs : List Loc) (ls : Array Slot), va_P D vwCl (cMod Y oM mM_13 tk) H → va_S A s.heap H locs → lv_has ls 6 [(0, .ref (oM 0)), (1, .int i1), (2, .int x11), (3, .int x12), (5, .int x26)] → W p l e (headSpec wsX5_feuding rmX5_feuding).room s m ([.ref (oM 0), .int i1] : List Value).toArray below meth c H locs 0 0 QQ (F0 m 70 ls [])) hM (fun  hM H locs ls hP hS hl => ?_) (fun k32 hJ32 hM => ?_)
              · refine lv_iconst (v := (1 : Int32)) hx hb dX5_feuding_70 (by decide) ?_
                refine lv_goto (tgt := 75) hx hb dX5_feuding_71 (by decide) ?_
                exact hJ30 (1 : Int32) hM H locs ls hP hS (lv_sub hl [0, 1, 2, 3, 4] rfl)
              · refine lv_if_ne (tgt := 70) hx hb dX5_feuding_40 (by decide) (fun c33 => ?_) (fun c33 => ?_)
                · replace hM := if_at_neg hM c33
                  exact hJ32 hM H locs ls hP hS (lv_sub hl [0, 1, 2, 3, 5] rfl)
                · replace hM := if_at_pos hM c33
                  refine lv_aload_n hx hb dX5_feuding_43 rfl (lv_at hl 0 rfl) ?_
                  refine lv_aload_n hx hb dX5_feuding_44 rfl (lv_at hl 0 rfl) ?_
                  refine va_get hx hb hts hi5 hown hK hP 0 rfl rfl 8 (by decide) (hts (.fieldLink RX5 26 "NightPlotsModel" "feud" "[I") (List.mem_of_getElem? (i := 2) rfl)) (fun _ h9 => h9) rfl dX5_feuding_45 ?_
                  refine lv_iconst (v := (2 : Int32)) hx hb dX5_feuding_48 (by decide) ?_
                  refine lv_iload hx hb dX5_feuding_49 (lv_at hl 5 rfl) ?_
                  refine lv_imul hx hb dX5_feuding_51 ?_
                  obtain ⟨hi_34, hM⟩ := chkI_at hM
                  refine va_iald hx hb hK hP 5 0 rfl rfl hi_34 dX5_feuding_52 ?_
                  refine lv_aload_n hx hb dX5_feuding_53 rfl (lv_at hl 0 rfl) ?_
                  refine va_get hx hb hts hi5 hown hK hP 0 rfl rfl 8 (by decide) (hts (.fieldLink RX5 26 "NightPlotsModel" "feud" "[I") (List.mem_of_getElem? (i := 2) rfl)) (fun _ h9 => h9) rfl dX5_feuding_54 ?_
                  refine lv_iconst (v := (2 : Int32)) hx hb dX5_feuding_57 (by decide) ?_
                  refine lv_iload hx hb dX5_feuding_58 (lv_at hl 5 rfl) ?_
                  refine lv_imul hx hb dX5_feuding_60 ?_
                  refine lv_iconst (v := (1 : Int32)) hx hb dX5_feuding_61 (by decide) ?_
                  refine lv_iadd hx hb dX5_feuding_62 ?_
                  obtain ⟨hi_35, hM⟩ := chkI_at hM
                  refine va_iald hx hb hK hP 5 0 rfl rfl hi_35 dX5_feuding_63 ?_
                  obtain ⟨r36, hc37, hM⟩ := bnd1_at hM
                  refine co_i (va_runV (As := [.int (mM_13 5 ((2 : Int32) * x26).toNatClampNeg), .int (mM_13 5 (((2 : Int32) * x26) + (1 : Int32)).toNatClampNeg)]) (rest := []) ⟨hx, hb, hml, hown, hts⟩ (ctX5_areBeside l D Y oM H.size mM_13 tk (mM_13 5 ((2 : Int32) * x26).toNatClampNeg) (mM_13 5 (((2 : Int32) * x26) + (1 : Int32)).toNatClampNeg) r36 hc37) (cwV 2 hts gX5_feuding_X5_areBeside rfl rfl rfl (by decide +kernel) ⟨Nat.le_of_ble_eq_true rfl, Nat.le_of_ble_eq_true rfl⟩) (pcW_V0 (ci := 5) (q0 := 0) hK hP (hD.same rfl) rfl rfl) rfl rfl hl.1 rfl (lv_room (Nat.le_of_ble_eq_true rfl)) dX5_feuding_64 ⟨Nat.zero_le _, Nat.zero_le _⟩) (hD.same rfl) hS hA (fun H locs hP hS => ?_)
                  refine lv_if_eq (tgt := 74) hx hb dX5_feuding_67 (by decide) (fun c38 => ?_) (fun c38 => ?_)
                  · replace hM := if_at_pos hM c38
                    refine lv_iconst (v := (0 : Int32)) hx hb dX5_feuding_74 (by decide) ?_
                    exact hJ30 (0 : Int32) hM H locs ls hP hS (lv_sub hl [0, 1, 2, 3, 5] rfl)
                  · replace hM := if_at_neg hM c38
                    exact hJ32 hM H locs ls hP hS (lv_sub hl [0, 1, 2, 3, 5] rfl)
  · replace hM := if_at_pos hM c3
    refine lv_bipush (v := (-3 : Int32)) hx hb dX5_feuding_7 (by decide) ?_
    cases hM
    rw [hQQ]
    exact W.iret hx hb hr (fun t ht hW => ⟨⟨_, (), rfl, rfl, by show va_P D vwCl _ t.heap; rw [ht]; exact hP⟩, hS.F ht⟩) hS.2.2 dX5_feuding_9
noncomputable def BX5_enter_2 (k2 : GS → Option (GS)) (i1 : Int32) (rec9 : Int32 → GS → Option (GS)) (x7 : Int32) (mM_8 : GS) : Option (GS) := if (8 : Int32) ≤ x7 then (k2 mM_8) else (chkI x7 19 (nm (mM_8 8 x7.toNatClampNeg) fun (x12 : Int32) => chkI (((8 : Int32) * i1) + x7) 48 (nm (upA mM_8 15 (upd (mM_8 15) (((8 : Int32) * i1) + x7).toNatClampNeg x12)) fun (mM_14 : GS) => nm (x7 + 1) fun (x15 : Int32) => rec9 x15 mM_14)))
noncomputable def MX5_enter (mM : GS) (i1 : Int32) : Option (GS) := jn1 (fun (mM_1 : GS) => chkI i1 6 (nm (upA mM_1 16 (upd (mM_1 16) i1.toNatClampNeg (0 : Int32))) fun (mM_4 : GS) => chkI i1 6 (nm (upA mM_4 17 (upd (mM_4 17) i1.toNatClampNeg (0 : Int32))) fun (mM_6 : GS) => some (mM_6)))) (fun k2 => lq2 (BX5_enter_2 k2 i1) FU (0 : Int32) mM)
abbrev rmX5_enter : Room := { frames := 1, cells := 0, slots := 0, locals := 40 }
set_option maxHeartbeats 4000000 in
set_option maxRecDepth 100000 in
theorem ctX5_enter (l : Launch) (D : va_G) (Y : Nat → ClassId) (oM : Nat → Nat) (sz : Nat) (mM : GS) (tk : Int64) (i1 : Int32) (mMz : GS) (hM : MX5_enter mM i1 = some (mMz)) : Met l yX5_enter wsX5_enter rmX5_enter (pcW [.ref (oM 0), .int i1] sz D Y (cMod Y oM mM tk)) (qvW D (cMod Y oM mMz tk) (va_A (cMod Y oM mM tk) sz)) 0 0 (va_A (cMod Y oM mM tk) sz) := by
  refine Met.ofW (cc := cX5_enter) (maxL := 3) (ret := (none)) (by decide) rfl ?_
  intro p e s m args below meth c s₁ B hml hv
  obtain ⟨rfl, hsz, hP, hK, hD0⟩ := hv
  have hx := B.exec
  have hb := B.bytes
  have hr := B.returns
  have hts := atoms_spec (ws := wsX5_enter) B.pre
  have hown : s.vm.findClass RX5 = some m.cls := findClass_of_methodNamed B.named
  have hlocks := B.notSynchronized
  subst hsz
  have hD := hD0.self (sz := s.heap.size)
  generalize hAe : va_A (cMod Y oM mM tk) s.heap.size = A at hD ⊢
  have hA : ∀ q : Nat, s.heap.size ≤ q → A q := fun q h => by rw [← hAe]; exact Or.inr h
  have hS : va_S A s.heap s.heap [] := va_S.rf
  have hi5 : ∀ w ∈ wsX50, w ∈ wsX5_enter := fun w h => List.mem_cons_of_mem _ (List.mem_append_right _ h)
  have hl := lv_entry ([.ref (oM 0), .int i1]) (n := 3) (Nat.le_of_ble_eq_true rfl)
  rw [lg_entry_eq]
  generalize (lg_sl ([.ref (oM 0), .int i1]) ++ List.replicate (3 - (lg_sl ([.ref (oM 0), .int i1])).length) Slot.unset).toArray = ls at hl ⊢
  have hl : lv_has ls 3 [(0, .ref (oM 0)), (1, .int i1)] := hl
  obtain ⟨QQ, hQQ⟩ : ∃ Q : State → Prop, Q = MQ below (qvW D (cMod Y oM mMz tk) A) ([.ref (oM 0), .int i1] : List Value).toArray s 0 0 A := ⟨_, rfl⟩
  rw [← hQQ]
  unfold MX5_enter at hM
  suffices hI : ∀ (H : Heap) (locs : List Loc), va_P D vwCl (cMod Y oM mM tk) H → va_S A s.heap H locs → W p l e (headSpec wsX5_enter rmX5_enter).room s m ([.ref (oM 0), .int i1] : List Value).toArray below meth c H locs 0 0 QQ (F0 m 0 ls []) from hI _ _ hP hS
  clear hP hS
  intro H locs hP hS
  refine lv_iconst (v := (0 : Int32)) hx hb dX5_enter_0 (by decide) ?_
  refine lv_istore_n (lv' := [(2, .int (0 : Int32)), (0, .ref (oM 0)), (1, .int i1)]) hx hb dX5_enter_1 rfl hl (by decide) rfl (fun ls hl => ?_)
  refine jn1_at (fun (mM_1 : GS) => ∀ (H : Heap) (locs : List Loc) (ls : Array Slot), va_P D vwCl (cMod Y oM mM_1 tk) H → va_S A s.heap H locs → lv_has ls 3 [(0, .ref (oM 0)), (1, .int i1)] → W p l e (headSpec wsX5_enter rmX5_enter).room s m ([.ref (oM 0), .int i1] : List Value).toArray below meth c H locs 0 0 QQ (F0 m 31 ls [])) hM (fun mM_1 hM H locs ls hP hS hl => ?_) (fun k2 hJ2 hM => ?_)
  · refine lv_aload_n hx hb dX5_enter_31 rfl (lv_at hl 0 rfl) ?_
    refine va_get hx hb hts hi5 hown hK hP 0 rfl rfl 37 (by decide) (hts (.fieldLink RX5 63 "NightPlotsModel" "deepHouse" "[I") (List.mem_of_getElem? (i := 3) rfl)) (fun _ h9 => h9) rfl dX5_enter_32 ?_
    refine lv_iload_n hx hb dX5_enter_35 rfl (lv_at hl 1 rfl) ?_
    refine lv_iconst (v := (0 : Int32)) hx hb dX5_enter_36 (by decide) ?_
    obtain ⟨hi_3, hM⟩ := chkI_at hM
    refine va_iast hx hb hK hP (hD.same rfl) hS 16 0 rfl rfl hi_3 dX5_enter_37 (fun H locs hP _ hS => ?_)
    obtain ⟨mM_4, emM_4⟩ : ∃ z : GS, z = (upA mM_1 16 (upd (mM_1 16) i1.toNatClampNeg (0 : Int32))) := ⟨_, rfl⟩
    have hP : va_P D vwCl (cMod Y oM mM_4 tk) H := by rw [emM_4]; exact hP
    replace hM := nm_at hM emM_4
    refine lv_aload_n hx hb dX5_enter_38 rfl (lv_at hl 0 rfl) ?_
    refine va_get hx hb hts hi5 hown hK hP 0 rfl rfl 38 (by decide) (hts (.fieldLink RX5 66 "NightPlotsModel" "deepWay" "[I") (List.mem_of_getElem? (i := 4) rfl)) (fun _ h9 => h9) rfl dX5_enter_39 ?_
    refine lv_iload_n hx hb dX5_enter_42 rfl (lv_at hl 1 rfl) ?_
    refine lv_iconst (v := (0 : Int32)) hx hb dX5_enter_43 (by decide) ?_
    obtain ⟨hi_5, hM⟩ := chkI_at hM
    refine va_iast hx hb hK hP (hD.same rfl) hS 17 0 rfl rfl hi_5 dX5_enter_44 (fun H locs hP _ hS => ?_)
    obtain ⟨mM_6, emM_6⟩ : ∃ z : GS, z = (upA mM_4 17 (upd (mM_4 17) i1.toNatClampNeg (0 : Int32))) := ⟨_, rfl⟩
    have hP : va_P D vwCl (cMod Y oM mM_6 tk) H := by rw [emM_6]; exact hP
    replace hM := nm_at hM emM_6
    cases hM
    rw [hQQ]
    exact W.vret hx hb hr (fun t ht hW => ⟨⟨(), rfl, trivial, by show va_P D vwCl _ t.heap; rw [ht]; exact hP⟩, hS.F ht⟩) hS.2.2 dX5_enter_45
  · refine lq2_at (fun (x7 : Int32) (mM_8 : GS) => ∀ (H : Heap) (locs : List Loc) (ls : Array Slot), va_P D vwCl (cMod Y oM mM_8 tk) H → va_S A s.heap H locs → lv_has ls 3 [(0, .ref (oM 0)), (1, .int i1), (2, .int x7)] → W p l e (headSpec wsX5_enter rmX5_enter).room s m ([.ref (oM 0), .int i1] : List Value).toArray below meth c H locs 0 0 QQ (F0 m 2 ls [])) (fun rec9 x7 mM_8 ih9 hM H locs ls hP hS hl => ?_) FU (0 : Int32) mM hM H locs ls hP hS (lv_sub hl [1, 2, 0] rfl)
    unfold BX5_enter_2 at hM
    refine lv_iload_n hx hb dX5_enter_2 rfl (lv_at hl 2 rfl) ?_
    refine lv_bipush (v := (8 : Int32)) hx hb dX5_enter_3 (by decide) ?_
    refine lv_icmp_ge (tgt := 31) hx hb dX5_enter_5 (by decide) (fun c10 => ?_) (fun c10 => ?_)
    · replace hM := if_at_pos hM c10
      exact hJ2 mM_8 hM H locs ls hP hS (lv_sub hl [0, 1] rfl)
    · replace hM := if_at_neg hM c10
      refine lv_aload_n hx hb dX5_enter_8 rfl (lv_at hl 0 rfl) ?_
      refine va_get hx hb hts hi5 hown hK hP 0 rfl rfl 36 (by decide) (hts (.fieldLink RX5 60 "NightPlotsModel" "deep" "[I") (List.mem_of_getElem? (i := 1) rfl)) (fun _ h9 => h9) rfl dX5_enter_9 ?_
      refine lv_bipush (v := (8 : Int32)) hx hb dX5_enter_12 (by decide) ?_
      refine lv_iload_n hx hb dX5_enter_14 rfl (lv_at hl 1 rfl) ?_
      refine lv_imul hx hb dX5_enter_15 ?_
      refine lv_iload_n hx hb dX5_enter_16 rfl (lv_at hl 2 rfl) ?_
      refine lv_iadd hx hb dX5_enter_17 ?_
      refine lv_aload_n hx hb dX5_enter_18 rfl (lv_at hl 0 rfl) ?_
      refine va_get hx hb hts hi5 hown hK hP 0 rfl rfl 26 (by decide) (hts (.fieldLink RX5 38 "NightPlotsModel" "now" "[I") (List.mem_of_getElem? (i := 2) rfl)) (fun _ h9 => h9) rfl dX5_enter_19 ?_
      refine lv_iload_n hx hb dX5_enter_22 rfl (lv_at hl 2 rfl) ?_
      obtain ⟨hi_11, hM⟩ := chkI_at hM
      refine va_iald hx hb hK hP 8 0 rfl rfl hi_11 dX5_enter_23 ?_
      refine lv_topi (fun x12 ex12 => ?_)
      replace hM := nm_at hM ex12
      obtain ⟨hi_13, hM⟩ := chkI_at hM
      refine va_iast hx hb hK hP (hD.same rfl) hS 15 0 rfl rfl hi_13 dX5_enter_24 (fun H locs hP _ hS => ?_)
      obtain ⟨mM_14, emM_14⟩ : ∃ z : GS, z = (upA mM_8 15 (upd (mM_8 15) (((8 : Int32) * i1) + x7).toNatClampNeg x12)) := ⟨_, rfl⟩
      have hP : va_P D vwCl (cMod Y oM mM_14 tk) H := by rw [emM_14]; exact hP
      replace hM := nm_at hM emM_14
      obtain ⟨x15, ex15⟩ : ∃ z : Int32, z = (x7 + 1) := ⟨_, rfl⟩
      replace hM := nm_at hM ex15
      refine lv_iinc (v := x15) (lv' := [(2, .int x15), (0, .ref (oM 0)), (1, .int i1)]) hx hb dX5_enter_25 hl (k := 2) rfl (by rw [ex15]; rfl) (by decide) rfl (fun ls hl => ?_)
      refine lv_goto (tgt := 2) hx hb dX5_enter_28 (by decide) ?_
      exact ih9 x15 mM_14 hM H locs ls hP hS (lv_sub hl [1, 2, 0] rfl)
noncomputable def BX5_restore_2 (k2 : GS → Option (GS)) (i1 : Int32) (rec5 : Int32 → GS → Option (GS)) (x3 : Int32) (mM_4 : GS) : Option (GS) := if (8 : Int32) ≤ x3 then (k2 mM_4) else (chkI (((8 : Int32) * i1) + x3) 48 (nm (mM_4 15 (((8 : Int32) * i1) + x3).toNatClampNeg) fun (x8 : Int32) => chkI x3 19 (nm (upA mM_4 8 (upd (mM_4 8) x3.toNatClampNeg x8)) fun (mM_10 : GS) => nm (x3 + 1) fun (x11 : Int32) => rec5 x11 mM_10)))
noncomputable def MX5_restore (mM : GS) (i1 : Int32) : Option (GS) := jn1 (fun (mM_1 : GS) => some (mM_1)) (fun k2 => lq2 (BX5_restore_2 k2 i1) FU (0 : Int32) mM)
abbrev rmX5_restore : Room := { frames := 1, cells := 0, slots := 0, locals := 40 }
set_option maxHeartbeats 4000000 in
set_option maxRecDepth 100000 in
theorem ctX5_restore (l : Launch) (D : va_G) (Y : Nat → ClassId) (oM : Nat → Nat) (sz : Nat) (mM : GS) (tk : Int64) (i1 : Int32) (mMz : GS) (hM : MX5_restore mM i1 = some (mMz)) : Met l yX5_restore wsX5_restore rmX5_restore (pcW [.ref (oM 0), .int i1] sz D Y (cMod Y oM mM tk)) (qvW D (cMod Y oM mMz tk) (va_A (cMod Y oM mM tk) sz)) 0 0 (va_A (cMod Y oM mM tk) sz) := by
  refine Met.ofW (cc := cX5_restore) (maxL := 3) (ret := (none)) (by decide) rfl ?_
  intro p e s m args below meth c s₁ B hml hv
  obtain ⟨rfl, hsz, hP, hK, hD0⟩ := hv
  have hx := B.exec
  have hb := B.bytes
  have hr := B.returns
  have hts := atoms_spec (ws := wsX5_restore) B.pre
  have hown : s.vm.findClass RX5 = some m.cls := findClass_of_methodNamed B.named
  have hlocks := B.notSynchronized
  subst hsz
  have hD := hD0.self (sz := s.heap.size)
  generalize hAe : va_A (cMod Y oM mM tk) s.heap.size = A at hD ⊢
  have hA : ∀ q : Nat, s.heap.size ≤ q → A q := fun q h => by rw [← hAe]; exact Or.inr h
  have hS : va_S A s.heap s.heap [] := va_S.rf
  have hi5 : ∀ w ∈ wsX50, w ∈ wsX5_restore := fun w h => List.mem_cons_of_mem _ (List.mem_append_right _ h)
  have hl := lv_entry ([.ref (oM 0), .int i1]) (n := 3) (Nat.le_of_ble_eq_true rfl)
  rw [lg_entry_eq]
  generalize (lg_sl ([.ref (oM 0), .int i1]) ++ List.replicate (3 - (lg_sl ([.ref (oM 0), .int i1])).length) Slot.unset).toArray = ls at hl ⊢
  have hl : lv_has ls 3 [(0, .ref (oM 0)), (1, .int i1)] := hl
  obtain ⟨QQ, hQQ⟩ : ∃ Q : State → Prop, Q = MQ below (qvW D (cMod Y oM mMz tk) A) ([.ref (oM 0), .int i1] : List Value).toArray s 0 0 A := ⟨_, rfl⟩
  rw [← hQQ]
  unfold MX5_restore at hM
  suffices hI : ∀ (H : Heap) (locs : List Loc), va_P D vwCl (cMod Y oM mM tk) H → va_S A s.heap H locs → W p l e (headSpec wsX5_restore rmX5_restore).room s m ([.ref (oM 0), .int i1] : List Value).toArray below meth c H locs 0 0 QQ (F0 m 0 ls []) from hI _ _ hP hS
  clear hP hS
  intro H locs hP hS
  refine lv_iconst (v := (0 : Int32)) hx hb dX5_restore_0 (by decide) ?_
  refine lv_istore_n (lv' := [(2, .int (0 : Int32)), (0, .ref (oM 0)), (1, .int i1)]) hx hb dX5_restore_1 rfl hl (by decide) rfl (fun ls hl => ?_)
  refine jn1_at (fun (mM_1 : GS) => ∀ (H : Heap) (locs : List Loc) (ls : Array Slot), va_P D vwCl (cMod Y oM mM_1 tk) H → va_S A s.heap H locs → lv_has ls 3 [] → W p l e (headSpec wsX5_restore rmX5_restore).room s m ([.ref (oM 0), .int i1] : List Value).toArray below meth c H locs 0 0 QQ (F0 m 31 ls [])) hM (fun mM_1 hM H locs ls hP hS hl => ?_) (fun k2 hJ2 hM => ?_)
  · cases hM
    rw [hQQ]
    exact W.vret hx hb hr (fun t ht hW => ⟨⟨(), rfl, trivial, by show va_P D vwCl _ t.heap; rw [ht]; exact hP⟩, hS.F ht⟩) hS.2.2 dX5_restore_31
  · refine lq2_at (fun (x3 : Int32) (mM_4 : GS) => ∀ (H : Heap) (locs : List Loc) (ls : Array Slot), va_P D vwCl (cMod Y oM mM_4 tk) H → va_S A s.heap H locs → lv_has ls 3 [(0, .ref (oM 0)), (1, .int i1), (2, .int x3)] → W p l e (headSpec wsX5_restore rmX5_restore).room s m ([.ref (oM 0), .int i1] : List Value).toArray below meth c H locs 0 0 QQ (F0 m 2 ls [])) (fun rec5 x3 mM_4 ih5 hM H locs ls hP hS hl => ?_) FU (0 : Int32) mM hM H locs ls hP hS (lv_sub hl [1, 2, 0] rfl)
    unfold BX5_restore_2 at hM
    refine lv_iload_n hx hb dX5_restore_2 rfl (lv_at hl 2 rfl) ?_
    refine lv_bipush (v := (8 : Int32)) hx hb dX5_restore_3 (by decide) ?_
    refine lv_icmp_ge (tgt := 31) hx hb dX5_restore_5 (by decide) (fun c6 => ?_) (fun c6 => ?_)
    · replace hM := if_at_pos hM c6
      exact hJ2 mM_4 hM H locs ls hP hS (lv_sub hl [] rfl)
    · replace hM := if_at_neg hM c6
      refine lv_aload_n hx hb dX5_restore_8 rfl (lv_at hl 0 rfl) ?_
      refine va_get hx hb hts hi5 hown hK hP 0 rfl rfl 26 (by decide) (hts (.fieldLink RX5 38 "NightPlotsModel" "now" "[I") (List.mem_of_getElem? (i := 1) rfl)) (fun _ h9 => h9) rfl dX5_restore_9 ?_
      refine lv_iload_n hx hb dX5_restore_12 rfl (lv_at hl 2 rfl) ?_
      refine lv_aload_n hx hb dX5_restore_13 rfl (lv_at hl 0 rfl) ?_
      refine va_get hx hb hts hi5 hown hK hP 0 rfl rfl 36 (by decide) (hts (.fieldLink RX5 60 "NightPlotsModel" "deep" "[I") (List.mem_of_getElem? (i := 2) rfl)) (fun _ h9 => h9) rfl dX5_restore_14 ?_
      refine lv_bipush (v := (8 : Int32)) hx hb dX5_restore_17 (by decide) ?_
      refine lv_iload_n hx hb dX5_restore_19 rfl (lv_at hl 1 rfl) ?_
      refine lv_imul hx hb dX5_restore_20 ?_
      refine lv_iload_n hx hb dX5_restore_21 rfl (lv_at hl 2 rfl) ?_
      refine lv_iadd hx hb dX5_restore_22 ?_
      obtain ⟨hi_7, hM⟩ := chkI_at hM
      refine va_iald hx hb hK hP 15 0 rfl rfl hi_7 dX5_restore_23 ?_
      refine lv_topi (fun x8 ex8 => ?_)
      replace hM := nm_at hM ex8
      obtain ⟨hi_9, hM⟩ := chkI_at hM
      refine va_iast hx hb hK hP (hD.same rfl) hS 8 0 rfl rfl hi_9 dX5_restore_24 (fun H locs hP _ hS => ?_)
      obtain ⟨mM_10, emM_10⟩ : ∃ z : GS, z = (upA mM_4 8 (upd (mM_4 8) x3.toNatClampNeg x8)) := ⟨_, rfl⟩
      have hP : va_P D vwCl (cMod Y oM mM_10 tk) H := by rw [emM_10]; exact hP
      replace hM := nm_at hM emM_10
      obtain ⟨x11, ex11⟩ : ∃ z : Int32, z = (x3 + 1) := ⟨_, rfl⟩
      replace hM := nm_at hM ex11
      refine lv_iinc (v := x11) (lv' := [(2, .int x11), (0, .ref (oM 0)), (1, .int i1)]) hx hb dX5_restore_25 hl (k := 2) rfl (by rw [ex11]; rfl) (by decide) rfl (fun ls hl => ?_)
      refine lv_goto (tgt := 2) hx hb dX5_restore_28 (by decide) ?_
      exact ih5 x11 mM_10 hM H locs ls hP hS (lv_sub hl [1, 2, 0] rfl)
noncomputable def BX5_firstRow_29 (k5 : GS → Option (Int32 × GS)) (i3 : Int32) (i1 : Int32) (i2 : Int32) (k7 : GS → Option (Int32 × GS)) (rec11 : Int32 → GS → Option (Int32 × GS)) (x9 : Int32) (mM_10 : GS) : Option (Int32 × GS) := if x9 < 0 then (k5 mM_10) else (bnd1 (MX5_restore mM_10 x9) fun (mM_13 : GS) => chkI x9 6 (jn1 (fun (x16 : Int32) => jn1 (fun (mM_18 : GS) => jn2 (fun (x20 : Int32) (mM_21 : GS) => rec11 x20 mM_21) (fun k22 => if x16 = 0 then (chkI x9 6 (if (mM_18 17 x9.toNatClampNeg) < (mM_18 0 32) then (chkI x9 6 (chkI (mM_18 17 x9.toNatClampNeg) 8 (nm (mM_18 13 (mM_18 17 x9.toNatClampNeg).toNatClampNeg) fun (x28 : Int32) => chkI x9 6 (nm (((20 : Int32) * (mM_18 16 x9.toNatClampNeg)) + x28) fun (x30 : Int32) => chkI x9 6 (nm (upA mM_18 18 (upd (mM_18 18) x9.toNatClampNeg x30)) fun (mM_32 : GS) => chkI x9 6 (chkI (mM_32 16 x9.toNatClampNeg) 19 (nm (upA mM_32 8 (upd (mM_32 8) (mM_32 16 x9.toNatClampNeg).toNatClampNeg x28)) fun (mM_35 : GS) => chkI x9 6 (nm ((mM_35 17 x9.toNatClampNeg) + (1 : Int32)) fun (x37 : Int32) => chkI x9 6 (nm (upA mM_35 17 (upd (mM_35 17) x9.toNatClampNeg x37)) fun (mM_39 : GS) => if (x9 + (1 : Int32)) = i3 then (bnd1 (MX5_areBeside mM_39 i1 i2) fun (r44 : Int32) => if r44 = 0 then (k22 x9 mM_39) else (k7 mM_39)) else (nm (x9 + 1) fun (x41 : Int32) => bnd1 (MX5_enter mM_39 x41) fun (mM_42 : GS) => k22 x41 mM_42)))))))))) else (chkI x9 6 (nm ((mM_18 16 x9.toNatClampNeg) + (1 : Int32)) fun (x48 : Int32) => chkI x9 6 (nm (upA mM_18 16 (upd (mM_18 16) x9.toNatClampNeg x48)) fun (mM_50 : GS) => chkI x9 6 (nm (upA mM_50 17 (upd (mM_50 17) x9.toNatClampNeg (0 : Int32))) fun (mM_52 : GS) => k22 x9 mM_52)))))) else (nm (x9 + (-1 : Int32)) fun (x53 : Int32) => k22 x53 mM_18))) (fun k19 => if x16 = 0 then (chkI x9 6 (bnd1 (MX5_layWays mM_13 (mM_13 16 x9.toNatClampNeg)) fun (mM_56 : GS) => k19 mM_56)) else (k19 mM_13))) (fun k17 => if (mM_13 16 x9.toNatClampNeg) = (mM_13 0 2) then (k17 (1 : Int32)) else (k17 (0 : Int32)))))
noncomputable def MX5_firstRow (mM : GS) (i1 : Int32) (i2 : Int32) (i3 : Int32) : Option (Int32 × GS) := if i3 = 0 then (bnd1 (MX5_areBeside mM i1 i2) fun (r59 : Int32) => jn1 (fun (x61 : Int32) => some (x61, mM)) (fun k62 => if r59 = 0 then (k62 (-1 : Int32)) else (k62 (999 : Int32)))) else (bnd1 (MX5_enter mM (0 : Int32)) fun (mM_2 : GS) => jn1 (fun (mM_4 : GS) => some ((-1 : Int32), mM_4)) (fun k5 => jn1 (fun (mM_6 : GS) => chkI (0 : Int32) 6 (some ((mM_6 18 (0 : Int32).toNatClampNeg), mM_6))) (fun k7 => lq2 (BX5_firstRow_29 k5 i3 i1 i2 k7) FU (0 : Int32) mM_2)))
abbrev rmX5_firstRow : Room := { frames := 4, cells := 0, slots := 0, locals := 160 }
set_option maxHeartbeats 4000000 in
set_option maxRecDepth 100000 in
theorem ctX5_firstRow (l : Launch) (D : va_G) (Y : Nat → ClassId) (oM : Nat → Nat) (sz : Nat) (mM : GS) (tk : Int64) (i1 : Int32) (i2 : Int32) (i3 : Int32) (rr : Int32) (mMz : GS) (hM : MX5_firstRow mM i1 i2 i3 = some (rr, mMz)) : Met l yX5_firstRow wsX5_firstRow rmX5_firstRow (pcW [.ref (oM 0), .int i1, .int i2, .int i3] sz D Y (cMod Y oM mM tk)) (qiW rr D (cMod Y oM mMz tk) (va_A (cMod Y oM mM tk) sz)) 0 0 (va_A (cMod Y oM mM tk) sz) := by
  refine Met.ofW (cc := cX5_firstRow) (maxL := 7) (ret := (some .int)) (by decide) rfl ?_
  intro p e s m args below meth c s₁ B hml hv
  obtain ⟨rfl, hsz, hP, hK, hD0⟩ := hv
  have hx := B.exec
  have hb := B.bytes
  have hr := B.returns
  have hts := atoms_spec (ws := wsX5_firstRow) B.pre
  have hown : s.vm.findClass RX5 = some m.cls := findClass_of_methodNamed B.named
  have hlocks := B.notSynchronized
  subst hsz
  have hD := hD0.self (sz := s.heap.size)
  generalize hAe : va_A (cMod Y oM mM tk) s.heap.size = A at hD ⊢
  have hA : ∀ q : Nat, s.heap.size ≤ q → A q := fun q h => by rw [← hAe]; exact Or.inr h
  have hS : va_S A s.heap s.heap [] := va_S.rf
  have hi5 : ∀ w ∈ wsX50, w ∈ wsX5_firstRow := fun w h => List.mem_cons_of_mem _ (List.mem_append_right _ h)
  have hl := lv_entry ([.ref (oM 0), .int i1, .int i2, .int i3]) (n := 7) (Nat.le_of_ble_eq_true rfl)
  rw [lg_entry_eq]
  generalize (lg_sl ([.ref (oM 0), .int i1, .int i2, .int i3]) ++ List.replicate (7 - (lg_sl ([.ref (oM 0), .int i1, .int i2, .int i3])).length) Slot.unset).toArray = ls at hl ⊢
  have hl : lv_has ls 7 [(0, .ref (oM 0)), (1, .int i1), (2, .int i2), (3, .int i3)] := hl
  obtain ⟨QQ, hQQ⟩ : ∃ Q : State → Prop, Q = MQ below (qiW rr D (cMod Y oM mMz tk) A) ([.ref (oM 0), .int i1, .int i2, .int i3] : List Value).toArray s 0 0 A := ⟨_, rfl⟩
  rw [← hQQ]
  unfold MX5_firstRow at hM
  suffices hI : ∀ (H : Heap) (locs : List Loc), va_P D vwCl (cMod Y oM mM tk) H → va_S A s.heap H locs → W p l e (headSpec wsX5_firstRow rmX5_firstRow).room s m ([.ref (oM 0), .int i1, .int i2, .int i3] : List Value).toArray below meth c H locs 0 0 QQ (F0 m 0 ls []) from hI _ _ hP hS
  clear hP hS
  intro H locs hP hS
  refine lv_iload_n hx hb dX5_firstRow_0 rfl (lv_at hl 3 rfl) ?_
  refine lv_if_ne (tgt := 21) hx hb dX5_firstRow_1 (by decide) (fun c1 => ?_) (fun c1 => ?_)
  · replace hM := if_at_neg hM c1
    refine lv_iconst (v := (0 : Int32)) hx hb dX5_firstRow_21 (by decide) ?_
    refine lv_istore (lv' := [(4, .int (0 : Int32)), (0, .ref (oM 0)), (1, .int i1), (2, .int i2), (3, .int i3)]) hx hb dX5_firstRow_22 hl (by decide) rfl (fun ls hl => ?_)
    refine lv_aload_n hx hb dX5_firstRow_24 rfl (lv_at hl 1 rfl) ?_
    refine lv_iconst (v := (0 : Int32)) hx hb dX5_firstRow_25 (by decide) ?_
    obtain ⟨mM_2, hc3, hM⟩ := bnd1_at hM
    refine co_v (va_runV (As := [.int (0 : Int32)]) (rest := []) ⟨hx, hb, hml, hown, hts⟩ (ctX5_enter l D Y oM H.size mM tk (0 : Int32) mM_2 hc3) (cwV 1 hts gX5_firstRow_X5_enter rfl rfl rfl (by decide +kernel) ⟨Nat.le_of_ble_eq_true rfl, Nat.le_of_ble_eq_true rfl⟩) (pcW_V0 (ci := 5) (q0 := 0) hK hP (hD.same rfl) rfl rfl) rfl rfl hl.1 rfl (lv_room (Nat.le_of_ble_eq_true rfl)) dX5_firstRow_26 ⟨Nat.zero_le _, Nat.zero_le _⟩) (hD.same rfl) hS hA (fun H locs hP hS => ?_)
    refine jn1_at (fun (mM_4 : GS) => ∀ (H : Heap) (locs : List Loc) (ls : Array Slot), va_P D vwCl (cMod Y oM mM_4 tk) H → va_S A s.heap H locs → lv_has ls 7 [] → W p l e (headSpec wsX5_firstRow rmX5_firstRow).room s m ([.ref (oM 0), .int i1, .int i2, .int i3] : List Value).toArray below meth c H locs 0 0 QQ (F0 m 219 ls [])) hM (fun mM_4 hM H locs ls hP hS hl => ?_) (fun k5 hJ5 hM => ?_)
    · refine lv_iconst (v := (-1 : Int32)) hx hb dX5_firstRow_219 (by decide) ?_
      cases hM
      rw [hQQ]
      exact W.iret hx hb hr (fun t ht hW => ⟨⟨_, (), rfl, rfl, by show va_P D vwCl _ t.heap; rw [ht]; exact hP⟩, hS.F ht⟩) hS.2.2 dX5_firstRow_220
    · refine jn1_at (fun (mM_6 : GS) => ∀ (H : Heap) (locs : List Loc) (ls : Array Slot), va_P D vwCl (cMod Y oM mM_6 tk) H → va_S A s.heap H locs → lv_has ls 7 [(0, .ref (oM 0))] → W p l e (headSpec wsX5_firstRow rmX5_firstRow).room s m ([.ref (oM 0), .int i1, .int i2, .int i3] : List Value).toArray below meth c H locs 0 0 QQ (F0 m 200 ls [])) hM (fun mM_6 hM H locs ls hP hS hl => ?_) (fun k7 hJ7 hM => ?_)
      · refine lv_aload_n hx hb dX5_firstRow_200 rfl (lv_at hl 0 rfl) ?_
        refine va_get hx hb hts hi5 hown hK hP 0 rfl rfl 39 (by decide) (hts (.fieldLink RX5 69 "NightPlotsModel" "deepRoll" "[I") (List.mem_of_getElem? (i := 6) rfl)) (fun _ h9 => h9) rfl dX5_firstRow_201 ?_
        refine lv_iconst (v := (0 : Int32)) hx hb dX5_firstRow_204 (by decide) ?_
        obtain ⟨hi_8, hM⟩ := chkI_at hM
        refine va_iald hx hb hK hP 18 0 rfl rfl hi_8 dX5_firstRow_205 ?_
        cases hM
        rw [hQQ]
        exact W.iret hx hb hr (fun t ht hW => ⟨⟨_, (), rfl, rfl, by show va_P D vwCl _ t.heap; rw [ht]; exact hP⟩, hS.F ht⟩) hS.2.2 dX5_firstRow_206
      · refine lq2_at (fun (x9 : Int32) (mM_10 : GS) => ∀ (H : Heap) (locs : List Loc) (ls : Array Slot), va_P D vwCl (cMod Y oM mM_10 tk) H → va_S A s.heap H locs → lv_has ls 7 [(0, .ref (oM 0)), (1, .int i1), (2, .int i2), (3, .int i3), (4, .int x9)] → W p l e (headSpec wsX5_firstRow rmX5_firstRow).room s m ([.ref (oM 0), .int i1, .int i2, .int i3] : List Value).toArray below meth c H locs 0 0 QQ (F0 m 29 ls [])) (fun rec11 x9 mM_10 ih11 hM H locs ls hP hS hl => ?_) FU (0 : Int32) mM_2 hM H locs ls hP hS (lv_sub hl [1, 2, 3, 4, 0] rfl)
        unfold BX5_firstRow_29 at hM
        refine lv_iload hx hb dX5_firstRow_29 (lv_at hl 4 rfl) ?_
        refine lv_if_lt (tgt := 219) hx hb dX5_firstRow_31 (by decide) (fun c12 => ?_) (fun c12 => ?_)
        · replace hM := if_at_pos hM c12
          exact hJ5 mM_10 hM H locs ls hP hS (lv_sub hl [] rfl)
        · replace hM := if_at_neg hM c12
          refine lv_aload_n hx hb dX5_firstRow_34 rfl (lv_at hl 0 rfl) ?_
          refine lv_iload hx hb dX5_firstRow_35 (lv_at hl 4 rfl) ?_
          obtain ⟨mM_13, hc14, hM⟩ := bnd1_at hM
          refine co_v (va_runV (As := [.int x9]) (rest := []) ⟨hx, hb, hml, hown, hts⟩ (ctX5_restore l D Y oM H.size mM_10 tk x9 mM_13 hc14) (cwV 1 hts gX5_firstRow_X5_restore rfl rfl rfl (by decide +kernel) ⟨Nat.le_of_ble_eq_true rfl, Nat.le_of_ble_eq_true rfl⟩) (pcW_V0 (ci := 5) (q0 := 0) hK hP (hD.same rfl) rfl rfl) rfl rfl hl.1 rfl (lv_room (Nat.le_of_ble_eq_true rfl)) dX5_firstRow_37 ⟨Nat.zero_le _, Nat.zero_le _⟩) (hD.same rfl) hS hA (fun H locs hP hS => ?_)
          refine lv_aload_n hx hb dX5_firstRow_40 rfl (lv_at hl 0 rfl) ?_
          refine va_get hx hb hts hi5 hown hK hP 0 rfl rfl 37 (by decide) (hts (.fieldLink RX5 63 "NightPlotsModel" "deepHouse" "[I") (List.mem_of_getElem? (i := 1) rfl)) (fun _ h9 => h9) rfl dX5_firstRow_41 ?_
          refine lv_iload hx hb dX5_firstRow_44 (lv_at hl 4 rfl) ?_
          obtain ⟨hi_15, hM⟩ := chkI_at hM
          refine va_iald hx hb hK hP 16 0 rfl rfl hi_15 dX5_firstRow_46 ?_
          refine lv_aload_n hx hb dX5_firstRow_47 rfl (lv_at hl 0 rfl) ?_
          refine va_get hx hb hts hi5 hown hK hP 0 rfl rfl 2 (by decide) (hts (.fieldLink RX5 78 "NightPlotsModel" "houses" "I") (List.mem_of_getElem? (i := 2) rfl)) (fun _ h9 => h9) rfl dX5_firstRow_48 ?_
          refine jn1_at (fun (x16 : Int32) => ∀ (H : Heap) (locs : List Loc) (ls : Array Slot), va_P D vwCl (cMod Y oM mM_13 tk) H → va_S A s.heap H locs → lv_has ls 7 [(0, .ref (oM 0)), (1, .int i1), (2, .int i2), (3, .int i3), (4, .int x9)] → W p l e (headSpec wsX5_firstRow rmX5_firstRow).room s m ([.ref (oM 0), .int i1, .int i2, .int i3] : List Value).toArray below meth c H locs 0 0 QQ (F0 m 59 ls [.int x16])) hM (fun x16 hM H locs ls hP hS hl => ?_) (fun k17 hJ17 hM => ?_)
          · refine lv_istore (lv' := [(5, .int x16), (0, .ref (oM 0)), (1, .int i1), (2, .int i2), (3, .int i3), (4, .int x9)]) hx hb dX5_firstRow_59 hl (by decide) rfl (fun ls hl => ?_)
            refine lv_iload hx hb dX5_firstRow_61 (lv_at hl 0 rfl) ?_
            refine jn1_at (fun (mM_18 : GS) => ∀ (H : Heap) (locs : List Loc) (ls : Array Slot), va_P D vwCl (cMod Y oM mM_18 tk) H → va_S A s.heap H locs → lv_has ls 7 [(0, .ref (oM 0)), (1, .int i1), (2, .int i2), (3, .int i3), (4, .int x9), (5, .int x16)] → W p l e (headSpec wsX5_firstRow rmX5_firstRow).room s m ([.ref (oM 0), .int i1, .int i2, .int i3] : List Value).toArray below meth c H locs 0 0 QQ (F0 m 77 ls [])) hM (fun mM_18 hM H locs ls hP hS hl => ?_) (fun k19 hJ19 hM => ?_)
            · refine lv_iload hx hb dX5_firstRow_77 (lv_at hl 5 rfl) ?_
              refine jn2_at (fun (x20 : Int32) (mM_21 : GS) => ∀ (H : Heap) (locs : List Loc) (ls : Array Slot), va_P D vwCl (cMod Y oM mM_21 tk) H → va_S A s.heap H locs → lv_has ls 7 [(0, .ref (oM 0)), (1, .int i1), (2, .int i2), (3, .int i3), (4, .int x20)] → W p l e (headSpec wsX5_firstRow rmX5_firstRow).room s m ([.ref (oM 0), .int i1, .int i2, .int i3] : List Value).toArray below meth c H locs 0 0 QQ (F0 m 216 ls [])) hM (fun x20 mM_21 hM H locs ls hP hS hl => ?_) (fun k22 hJ22 hM => ?_)
              · refine lv_goto (tgt := 29) hx hb dX5_firstRow_216 (by decide) ?_
                exact ih11 x20 mM_21 hM H locs ls hP hS (lv_sub hl [0, 1, 2, 3, 4] rfl)
              · refine lv_if_eq (tgt := 88) hx hb dX5_firstRow_79 (by decide) (fun c23 => ?_) (fun c23 => ?_)
                · replace hM := if_at_pos hM c23
                  refine lv_aload_n hx hb dX5_firstRow_88 rfl (lv_at hl 0 rfl) ?_
                  refine va_get hx hb hts hi5 hown hK hP 0 rfl rfl 38 (by decide) (hts (.fieldLink RX5 66 "NightPlotsModel" "deepWay" "[I") (List.mem_of_getElem? (i := 3) rfl)) (fun _ h9 => h9) rfl dX5_firstRow_89 ?_
                  refine lv_iload hx hb dX5_firstRow_92 (lv_at hl 4 rfl) ?_
                  obtain ⟨hi_24, hM⟩ := chkI_at hM
                  refine va_iald hx hb hK hP 17 0 rfl rfl hi_24 dX5_firstRow_94 ?_
                  refine lv_aload_n hx hb dX5_firstRow_95 rfl (lv_at hl 0 rfl) ?_
                  refine va_get hx hb hts hi5 hown hK hP 0 rfl rfl 32 (by decide) (hts (.fieldLink RX5 225 "NightPlotsModel" "wayMany" "I") (List.mem_of_getElem? (i := 4) rfl)) (fun _ h9 => h9) rfl dX5_firstRow_96 ?_
                  refine lv_icmp_lt (tgt := 124) hx hb dX5_firstRow_99 (by decide) (fun c25 => ?_) (fun c25 => ?_)
                  · replace hM := if_at_pos hM c25
                    refine lv_aload_n hx hb dX5_firstRow_124 rfl (lv_at hl 0 rfl) ?_
                    refine va_get hx hb hts hi5 hown hK hP 0 rfl rfl 33 (by decide) (hts (.fieldLink RX5 54 "NightPlotsModel" "way" "[I") (List.mem_of_getElem? (i := 5) rfl)) (fun _ h9 => h9) rfl dX5_firstRow_125 ?_
                    refine lv_aload_n hx hb dX5_firstRow_128 rfl (lv_at hl 0 rfl) ?_
                    refine va_get hx hb hts hi5 hown hK hP 0 rfl rfl 38 (by decide) (hts (.fieldLink RX5 66 "NightPlotsModel" "deepWay" "[I") (List.mem_of_getElem? (i := 3) rfl)) (fun _ h9 => h9) rfl dX5_firstRow_129 ?_
                    refine lv_iload hx hb dX5_firstRow_132 (lv_at hl 4 rfl) ?_
                    obtain ⟨hi_26, hM⟩ := chkI_at hM
                    refine va_iald hx hb hK hP 17 0 rfl rfl hi_26 dX5_firstRow_134 ?_
                    obtain ⟨hi_27, hM⟩ := chkI_at hM
                    refine va_iald hx hb hK hP 13 0 rfl rfl hi_27 dX5_firstRow_135 ?_
                    refine lv_topi (fun x28 ex28 => ?_)
                    replace hM := nm_at hM ex28
                    refine lv_istore (lv' := [(6, .int x28), (0, .ref (oM 0)), (1, .int i1), (2, .int i2), (3, .int i3), (4, .int x9), (5, .int x16)]) hx hb dX5_firstRow_136 hl (by decide) rfl (fun ls hl => ?_)
                    refine lv_aload_n hx hb dX5_firstRow_138 rfl (lv_at hl 1 rfl) ?_
                    refine va_get hx hb hts hi5 hown hK hP 0 rfl rfl 39 (by decide) (hts (.fieldLink RX5 69 "NightPlotsModel" "deepRoll" "[I") (List.mem_of_getElem? (i := 6) rfl)) (fun _ h9 => h9) rfl dX5_firstRow_139 ?_
                    refine lv_iload hx hb dX5_firstRow_142 (lv_at hl 5 rfl) ?_
                    refine lv_bipush (v := (20 : Int32)) hx hb dX5_firstRow_144 (by decide) ?_
                    refine lv_aload_n hx hb dX5_firstRow_146 rfl (lv_at hl 1 rfl) ?_
                    refine va_get hx hb hts hi5 hown hK hP 0 rfl rfl 37 (by decide) (hts (.fieldLink RX5 63 "NightPlotsModel" "deepHouse" "[I") (List.mem_of_getElem? (i := 1) rfl)) (fun _ h9 => h9) rfl dX5_firstRow_147 ?_
                    refine lv_iload hx hb dX5_firstRow_150 (lv_at hl 5 rfl) ?_
                    obtain ⟨hi_29, hM⟩ := chkI_at hM
                    refine va_iald hx hb hK hP 16 0 rfl rfl hi_29 dX5_firstRow_152 ?_
                    refine lv_imul hx hb dX5_firstRow_153 ?_
                    refine lv_iload hx hb dX5_firstRow_154 (lv_at hl 0 rfl) ?_
                    refine lv_iadd hx hb dX5_firstRow_156 ?_
                    refine lv_topi (fun x30 ex30 => ?_)
                    replace hM := nm_at hM ex30
                    obtain ⟨hi_31, hM⟩ := chkI_at hM
                    refine va_iast hx hb hK hP (hD.same rfl) hS 18 0 rfl rfl hi_31 dX5_firstRow_157 (fun H locs hP _ hS => ?_)
                    obtain ⟨mM_32, emM_32⟩ : ∃ z : GS, z = (upA mM_18 18 (upd (mM_18 18) x9.toNatClampNeg x30)) := ⟨_, rfl⟩
                    have hP : va_P D vwCl (cMod Y oM mM_32 tk) H := by rw [emM_32]; exact hP
                    replace hM := nm_at hM emM_32
                    refine lv_aload_n hx hb dX5_firstRow_158 rfl (lv_at hl 1 rfl) ?_
                    refine va_get hx hb hts hi5 hown hK hP 0 rfl rfl 26 (by decide) (hts (.fieldLink RX5 38 "NightPlotsModel" "now" "[I") (List.mem_of_getElem? (i := 7) rfl)) (fun _ h9 => h9) rfl dX5_firstRow_159 ?_
                    refine lv_aload_n hx hb dX5_firstRow_162 rfl (lv_at hl 1 rfl) ?_
                    refine va_get hx hb hts hi5 hown hK hP 0 rfl rfl 37 (by decide) (hts (.fieldLink RX5 63 "NightPlotsModel" "deepHouse" "[I") (List.mem_of_getElem? (i := 1) rfl)) (fun _ h9 => h9) rfl dX5_firstRow_163 ?_
                    refine lv_iload hx hb dX5_firstRow_166 (lv_at hl 5 rfl) ?_
                    obtain ⟨hi_33, hM⟩ := chkI_at hM
                    refine va_iald hx hb hK hP 16 0 rfl rfl hi_33 dX5_firstRow_168 ?_
                    refine lv_iload hx hb dX5_firstRow_169 (lv_at hl 0 rfl) ?_
                    obtain ⟨hi_34, hM⟩ := chkI_at hM
                    refine va_iast hx hb hK hP (hD.same rfl) hS 8 0 rfl rfl hi_34 dX5_firstRow_171 (fun H locs hP _ hS => ?_)
                    obtain ⟨mM_35, emM_35⟩ : ∃ z : GS, z = (upA mM_32 8 (upd (mM_32 8) (mM_32 16 x9.toNatClampNeg).toNatClampNeg x28)) := ⟨_, rfl⟩
                    have hP : va_P D vwCl (cMod Y oM mM_35 tk) H := by rw [emM_35]; exact hP
                    replace hM := nm_at hM emM_35
                    refine lv_aload_n hx hb dX5_firstRow_172 rfl (lv_at hl 1 rfl) ?_
                    refine va_get hx hb hts hi5 hown hK hP 0 rfl rfl 38 (by decide) (hts (.fieldLink RX5 66 "NightPlotsModel" "deepWay" "[I") (List.mem_of_getElem? (i := 3) rfl)) (fun _ h9 => h9) rfl dX5_firstRow_173 ?_
                    refine lv_iload hx hb dX5_firstRow_176 (lv_at hl 5 rfl) ?_
                    refine lv_dup2_11 hx hb dX5_firstRow_178 rfl rfl ?_
                    obtain ⟨hi_36, hM⟩ := chkI_at hM
                    refine va_iald hx hb hK hP 17 0 rfl rfl hi_36 dX5_firstRow_179 ?_
                    refine lv_iconst (v := (1 : Int32)) hx hb dX5_firstRow_180 (by decide) ?_
                    refine lv_iadd hx hb dX5_firstRow_181 ?_
                    refine lv_topi (fun x37 ex37 => ?_)
                    replace hM := nm_at hM ex37
                    obtain ⟨hi_38, hM⟩ := chkI_at hM
                    refine va_iast hx hb hK hP (hD.same rfl) hS 17 0 rfl rfl hi_38 dX5_firstRow_182 (fun H locs hP _ hS => ?_)
                    obtain ⟨mM_39, emM_39⟩ : ∃ z : GS, z = (upA mM_35 17 (upd (mM_35 17) x9.toNatClampNeg x37)) := ⟨_, rfl⟩
                    have hP : va_P D vwCl (cMod Y oM mM_39 tk) H := by rw [emM_39]; exact hP
                    replace hM := nm_at hM emM_39
                    refine lv_iload hx hb dX5_firstRow_183 (lv_at hl 5 rfl) ?_
                    refine lv_iconst (v := (1 : Int32)) hx hb dX5_firstRow_185 (by decide) ?_
                    refine lv_iadd hx hb dX5_firstRow_186 ?_
                    refine lv_iload_n hx hb dX5_firstRow_187 rfl (lv_at hl 4 rfl) ?_
                    refine lv_icmp_ne (tgt := 207) hx hb dX5_firstRow_188 (by decide) (fun c40 => ?_) (fun c40 => ?_)
                    · replace hM := if_at_neg hM c40
                      obtain ⟨x41, ex41⟩ : ∃ z : Int32, z = (x9 + 1) := ⟨_, rfl⟩
                      replace hM := nm_at hM ex41
                      refine lv_iinc (v := x41) (lv' := [(4, .int x41), (6, .int x28), (0, .ref (oM 0)), (1, .int i1), (2, .int i2), (3, .int i3), (5, .int x16)]) hx hb dX5_firstRow_207 hl (k := 5) rfl (by rw [ex41]; rfl) (by decide) rfl (fun ls hl => ?_)
                      refine lv_aload_n hx hb dX5_firstRow_210 rfl (lv_at hl 2 rfl) ?_
                      refine lv_iload hx hb dX5_firstRow_211 (lv_at hl 0 rfl) ?_
                      obtain ⟨mM_42, hc43, hM⟩ := bnd1_at hM
                      refine co_v (va_runV (As := [.int x41]) (rest := []) ⟨hx, hb, hml, hown, hts⟩ (ctX5_enter l D Y oM H.size mM_39 tk x41 mM_42 hc43) (cwV 1 hts gX5_firstRow_X5_enter rfl rfl rfl (by decide +kernel) ⟨Nat.le_of_ble_eq_true rfl, Nat.le_of_ble_eq_true rfl⟩) (pcW_V0 (ci := 5) (q0 := 0) hK hP (hD.same rfl) rfl rfl) rfl rfl hl.1 rfl (lv_room (Nat.le_of_ble_eq_true rfl)) dX5_firstRow_213 ⟨Nat.zero_le _, Nat.zero_le _⟩) (hD.same rfl) hS hA (fun H locs hP hS => ?_)
                      exact hJ22 x41 mM_42 hM H locs ls hP hS (lv_sub hl [2, 3, 4, 5, 0] rfl)
                    · replace hM := if_at_pos hM c40
                      refine lv_aload_n hx hb dX5_firstRow_191 rfl (lv_at hl 1 rfl) ?_
                      refine lv_iload_n hx hb dX5_firstRow_192 rfl (lv_at hl 2 rfl) ?_
                      refine lv_iload_n hx hb dX5_firstRow_193 rfl (lv_at hl 3 rfl) ?_
                      obtain ⟨r44, hc45, hM⟩ := bnd1_at hM
                      refine co_i (va_runV (As := [.int i1, .int i2]) (rest := []) ⟨hx, hb, hml, hown, hts⟩ (ctX5_areBeside l D Y oM H.size mM_39 tk i1 i2 r44 hc45) (cwV 2 hts gX5_firstRow_X5_areBeside rfl rfl rfl (by decide +kernel) ⟨Nat.le_of_ble_eq_true rfl, Nat.le_of_ble_eq_true rfl⟩) (pcW_V0 (ci := 5) (q0 := 0) hK hP (hD.same rfl) rfl rfl) rfl rfl hl.1 rfl (lv_room (Nat.le_of_ble_eq_true rfl)) dX5_firstRow_194 ⟨Nat.zero_le _, Nat.zero_le _⟩) (hD.same rfl) hS hA (fun H locs hP hS => ?_)
                      refine lv_if_eq (tgt := 216) hx hb dX5_firstRow_197 (by decide) (fun c46 => ?_) (fun c46 => ?_)
                      · replace hM := if_at_pos hM c46
                        exact hJ22 x9 mM_39 hM H locs ls hP hS (lv_sub hl [1, 2, 3, 4, 5] rfl)
                      · replace hM := if_at_neg hM c46
                        exact hJ7 mM_39 hM H locs ls hP hS (lv_sub hl [1] rfl)
                  · replace hM := if_at_neg hM c25
                    refine lv_aload_n hx hb dX5_firstRow_102 rfl (lv_at hl 0 rfl) ?_
                    refine va_get hx hb hts hi5 hown hK hP 0 rfl rfl 37 (by decide) (hts (.fieldLink RX5 63 "NightPlotsModel" "deepHouse" "[I") (List.mem_of_getElem? (i := 1) rfl)) (fun _ h9 => h9) rfl dX5_firstRow_103 ?_
                    refine lv_iload hx hb dX5_firstRow_106 (lv_at hl 4 rfl) ?_
                    refine lv_dup2_11 hx hb dX5_firstRow_108 rfl rfl ?_
                    obtain ⟨hi_47, hM⟩ := chkI_at hM
                    refine va_iald hx hb hK hP 16 0 rfl rfl hi_47 dX5_firstRow_109 ?_
                    refine lv_iconst (v := (1 : Int32)) hx hb dX5_firstRow_110 (by decide) ?_
                    refine lv_iadd hx hb dX5_firstRow_111 ?_
                    refine lv_topi (fun x48 ex48 => ?_)
                    replace hM := nm_at hM ex48
                    obtain ⟨hi_49, hM⟩ := chkI_at hM
                    refine va_iast hx hb hK hP (hD.same rfl) hS 16 0 rfl rfl hi_49 dX5_firstRow_112 (fun H locs hP _ hS => ?_)
                    obtain ⟨mM_50, emM_50⟩ : ∃ z : GS, z = (upA mM_18 16 (upd (mM_18 16) x9.toNatClampNeg x48)) := ⟨_, rfl⟩
                    have hP : va_P D vwCl (cMod Y oM mM_50 tk) H := by rw [emM_50]; exact hP
                    replace hM := nm_at hM emM_50
                    refine lv_aload_n hx hb dX5_firstRow_113 rfl (lv_at hl 0 rfl) ?_
                    refine va_get hx hb hts hi5 hown hK hP 0 rfl rfl 38 (by decide) (hts (.fieldLink RX5 66 "NightPlotsModel" "deepWay" "[I") (List.mem_of_getElem? (i := 3) rfl)) (fun _ h9 => h9) rfl dX5_firstRow_114 ?_
                    refine lv_iload hx hb dX5_firstRow_117 (lv_at hl 4 rfl) ?_
                    refine lv_iconst (v := (0 : Int32)) hx hb dX5_firstRow_119 (by decide) ?_
                    obtain ⟨hi_51, hM⟩ := chkI_at hM
                    refine va_iast hx hb hK hP (hD.same rfl) hS 17 0 rfl rfl hi_51 dX5_firstRow_120 (fun H locs hP _ hS => ?_)
                    obtain ⟨mM_52, emM_52⟩ : ∃ z : GS, z = (upA mM_50 17 (upd (mM_50 17) x9.toNatClampNeg (0 : Int32))) := ⟨_, rfl⟩
                    have hP : va_P D vwCl (cMod Y oM mM_52 tk) H := by rw [emM_52]; exact hP
                    replace hM := nm_at hM emM_52
                    refine lv_goto (tgt := 216) hx hb dX5_firstRow_121 (by decide) ?_
                    exact hJ22 x9 mM_52 hM H locs ls hP hS (lv_sub hl [0, 1, 2, 3, 4] rfl)
                · replace hM := if_at_neg hM c23
                  obtain ⟨x53, ex53⟩ : ∃ z : Int32, z = (x9 + (-1 : Int32)) := ⟨_, rfl⟩
                  replace hM := nm_at hM ex53
                  refine lv_iinc (v := x53) (lv' := [(4, .int x53), (0, .ref (oM 0)), (1, .int i1), (2, .int i2), (3, .int i3), (5, .int x16)]) hx hb dX5_firstRow_82 hl (k := 4) rfl (by rw [ex53]; rfl) (by decide) rfl (fun ls hl => ?_)
                  refine lv_goto (tgt := 216) hx hb dX5_firstRow_85 (by decide) ?_
                  exact hJ22 x53 mM_18 hM H locs ls hP hS (lv_sub hl [1, 2, 3, 4, 0] rfl)
            · refine lv_if_ne (tgt := 77) hx hb dX5_firstRow_63 (by decide) (fun c54 => ?_) (fun c54 => ?_)
              · replace hM := if_at_neg hM c54
                exact hJ19 mM_13 hM H locs ls hP hS (lv_sub hl [1, 2, 3, 4, 5, 0] rfl)
              · replace hM := if_at_pos hM c54
                refine lv_aload_n hx hb dX5_firstRow_66 rfl (lv_at hl 1 rfl) ?_
                refine lv_aload_n hx hb dX5_firstRow_67 rfl (lv_at hl 1 rfl) ?_
                refine va_get hx hb hts hi5 hown hK hP 0 rfl rfl 37 (by decide) (hts (.fieldLink RX5 63 "NightPlotsModel" "deepHouse" "[I") (List.mem_of_getElem? (i := 1) rfl)) (fun _ h9 => h9) rfl dX5_firstRow_68 ?_
                refine lv_iload hx hb dX5_firstRow_71 (lv_at hl 5 rfl) ?_
                obtain ⟨hi_55, hM⟩ := chkI_at hM
                refine va_iald hx hb hK hP 16 0 rfl rfl hi_55 dX5_firstRow_73 ?_
                obtain ⟨mM_56, hc57, hM⟩ := bnd1_at hM
                refine co_v (va_runV (As := [.int (mM_13 16 x9.toNatClampNeg)]) (rest := []) ⟨hx, hb, hml, hown, hts⟩ (ctX5_layWays l D Y oM H.size mM_13 tk (mM_13 16 x9.toNatClampNeg) mM_56 hc57) (cwV 1 hts gX5_firstRow_X5_layWays rfl rfl rfl (by decide +kernel) ⟨Nat.le_of_ble_eq_true rfl, Nat.le_of_ble_eq_true rfl⟩) (pcW_V0 (ci := 5) (q0 := 0) hK hP (hD.same rfl) rfl rfl) rfl rfl hl.1 rfl (lv_room (Nat.le_of_ble_eq_true rfl)) dX5_firstRow_74 ⟨Nat.zero_le _, Nat.zero_le _⟩) (hD.same rfl) hS hA (fun H locs hP hS => ?_)
                exact hJ19 mM_56 hM H locs ls hP hS (lv_sub hl [1, 2, 3, 4, 5, 0] rfl)
          · refine lv_icmp_ne (tgt := 58) hx hb dX5_firstRow_51 (by decide) (fun c58 => ?_) (fun c58 => ?_)
            · replace hM := if_at_neg hM c58
              refine lv_iconst (v := (0 : Int32)) hx hb dX5_firstRow_58 (by decide) ?_
              exact hJ17 (0 : Int32) hM H locs ls hP hS (lv_sub hl [0, 1, 2, 3, 4] rfl)
            · replace hM := if_at_pos hM c58
              refine lv_iconst (v := (1 : Int32)) hx hb dX5_firstRow_54 (by decide) ?_
              refine lv_goto (tgt := 59) hx hb dX5_firstRow_55 (by decide) ?_
              exact hJ17 (1 : Int32) hM H locs ls hP hS (lv_sub hl [0, 1, 2, 3, 4] rfl)
  · replace hM := if_at_pos hM c1
    refine lv_aload_n hx hb dX5_firstRow_4 rfl (lv_at hl 0 rfl) ?_
    refine lv_iload_n hx hb dX5_firstRow_5 rfl (lv_at hl 1 rfl) ?_
    refine lv_iload_n hx hb dX5_firstRow_6 rfl (lv_at hl 2 rfl) ?_
    obtain ⟨r59, hc60, hM⟩ := bnd1_at hM
    refine co_i (va_runV (As := [.int i1, .int i2]) (rest := []) ⟨hx, hb, hml, hown, hts⟩ (ctX5_areBeside l D Y oM H.size mM tk i1 i2 r59 hc60) (cwV 2 hts gX5_firstRow_X5_areBeside rfl rfl rfl (by decide +kernel) ⟨Nat.le_of_ble_eq_true rfl, Nat.le_of_ble_eq_true rfl⟩) (pcW_V0 (ci := 5) (q0 := 0) hK hP (hD.same rfl) rfl rfl) rfl rfl hl.1 rfl (lv_room (Nat.le_of_ble_eq_true rfl)) dX5_firstRow_7 ⟨Nat.zero_le _, Nat.zero_le _⟩) (hD.same rfl) hS hA (fun H locs hP hS => ?_)
    refine jn1_at (fun (x61 : Int32) => ∀ (H : Heap) (locs : List Loc) (ls : Array Slot), va_P D vwCl (cMod Y oM mM tk) H → va_S A s.heap H locs → lv_has ls 7 [] → W p l e (headSpec wsX5_firstRow rmX5_firstRow).room s m ([.ref (oM 0), .int i1, .int i2, .int i3] : List Value).toArray below meth c H locs 0 0 QQ (F0 m 20 ls [.int x61])) hM (fun x61 hM H locs ls hP hS hl => ?_) (fun k62 hJ62 hM => ?_)
    · cases hM
      rw [hQQ]
      exact W.iret hx hb hr (fun t ht hW => ⟨⟨_, (), rfl, rfl, by show va_P D vwCl _ t.heap; rw [ht]; exact hP⟩, hS.F ht⟩) hS.2.2 dX5_firstRow_20
    · refine lv_if_eq (tgt := 19) hx hb dX5_firstRow_10 (by decide) (fun c63 => ?_) (fun c63 => ?_)
      · replace hM := if_at_pos hM c63
        refine lv_iconst (v := (-1 : Int32)) hx hb dX5_firstRow_19 (by decide) ?_
        exact hJ62 (-1 : Int32) hM H locs ls hP hS (lv_sub hl [] rfl)
      · replace hM := if_at_neg hM c63
        refine lv_sipush (v := (999 : Int32)) hx hb dX5_firstRow_13 (by decide) ?_
        refine lv_goto (tgt := 20) hx hb dX5_firstRow_16 (by decide) ?_
        exact hJ62 (999 : Int32) hM H locs ls hP hS (lv_sub hl [] rfl)
noncomputable def BX5_nearest_35 (k11 : Int32 → Int32 → GS → Option (Int32 × GS)) (i1 : Int32) (i2 : Int32) (rec22 : Int32 → Int32 → Int32 → GS → Option (Int32 × GS)) (x18 : Int32) (x19 : Int32) (x20 : Int32) (mM_21 : GS) : Option (Int32 × GS) := if (6 : Int32) ≤ x20 then (k11 x18 x19 mM_21) else (if x18 = (-1 : Int32) then (bnd2 (MX5_firstRow mM_21 i1 i2 x20) fun (r25 : Int32) (mM_26 : GS) => bnd1 (MX5_putBack mM_26) fun (mM_28 : GS) => jn1 (fun (x30 : Int32) => nm (x20 + 1) fun (x32 : Int32) => rec22 x30 r25 x32 mM_28) (fun k31 => if r25 = (-1 : Int32) then (k31 (-1 : Int32)) else (k31 x20))) else (k11 x18 x19 mM_21))
noncomputable def MX5_nearest (mM : GS) (i1 : Int32) (i2 : Int32) (i3 : Int32) : Option (Int32 × GS) := bnd1 (MX5_in i3 (0 : Int32) (1 : Int32)) fun (r1 : Int32) => bnd1 (MX5_whyNot mM i1 i2 r1) fun (r3 : Int32) => if r3 = 0 then (bnd1 (MX5_putAside mM) fun (mM_6 : GS) => jn3 (fun (x8 : Int32) (x9 : Int32) (mM_10 : GS) => jn1 (fun (x12 : Int32) => some (x12, mM_10)) (fun k13 => jn0 (k13 x8) (fun k14 => if x8 = (-1 : Int32) then (k14) else (if i3 = 0 then (k14) else (if x9 = (999 : Int32) then (k13 (-1 : Int32)) else (k13 x9)))))) (fun k11 => lq4 (BX5_nearest_35 k11 i1 i2) FU (-1 : Int32) (-1 : Int32) (0 : Int32) mM_6)) else (some (r3, mM))
abbrev rmX5_nearest : Room := { frames := 5, cells := 0, slots := 0, locals := 200 }
set_option maxHeartbeats 4000000 in
set_option maxRecDepth 100000 in
theorem ctX5_nearest (l : Launch) (D : va_G) (Y : Nat → ClassId) (oM : Nat → Nat) (sz : Nat) (mM : GS) (tk : Int64) (i1 : Int32) (i2 : Int32) (i3 : Int32) (rr : Int32) (mMz : GS) (hM : MX5_nearest mM i1 i2 i3 = some (rr, mMz)) : Met l yX5_nearest wsX5_nearest rmX5_nearest (pcW [.ref (oM 0), .int i1, .int i2, .int i3] sz D Y (cMod Y oM mM tk)) (qiW rr D (cMod Y oM mMz tk) (va_A (cMod Y oM mM tk) sz)) 0 0 (va_A (cMod Y oM mM tk) sz) := by
  refine Met.ofW (cc := cX5_nearest) (maxL := 9) (ret := (some .int)) (by decide) rfl ?_
  intro p e s m args below meth c s₁ B hml hv
  obtain ⟨rfl, hsz, hP, hK, hD0⟩ := hv
  have hx := B.exec
  have hb := B.bytes
  have hr := B.returns
  have hts := atoms_spec (ws := wsX5_nearest) B.pre
  have hown : s.vm.findClass RX5 = some m.cls := findClass_of_methodNamed B.named
  have hlocks := B.notSynchronized
  subst hsz
  have hD := hD0.self (sz := s.heap.size)
  generalize hAe : va_A (cMod Y oM mM tk) s.heap.size = A at hD ⊢
  have hA : ∀ q : Nat, s.heap.size ≤ q → A q := fun q h => by rw [← hAe]; exact Or.inr h
  have hS : va_S A s.heap s.heap [] := va_S.rf
  have hl := lv_entry ([.ref (oM 0), .int i1, .int i2, .int i3]) (n := 9) (Nat.le_of_ble_eq_true rfl)
  rw [lg_entry_eq]
  generalize (lg_sl ([.ref (oM 0), .int i1, .int i2, .int i3]) ++ List.replicate (9 - (lg_sl ([.ref (oM 0), .int i1, .int i2, .int i3])).length) Slot.unset).toArray = ls at hl ⊢
  have hl : lv_has ls 9 [(0, .ref (oM 0)), (1, .int i1), (2, .int i2), (3, .int i3)] := hl
  obtain ⟨QQ, hQQ⟩ : ∃ Q : State → Prop, Q = MQ below (qiW rr D (cMod Y oM mMz tk) A) ([.ref (oM 0), .int i1, .int i2, .int i3] : List Value).toArray s 0 0 A := ⟨_, rfl⟩
  rw [← hQQ]
  unfold MX5_nearest at hM
  suffices hI : ∀ (H : Heap) (locs : List Loc), va_P D vwCl (cMod Y oM mM tk) H → va_S A s.heap H locs → W p l e (headSpec wsX5_nearest rmX5_nearest).room s m ([.ref (oM 0), .int i1, .int i2, .int i3] : List Value).toArray below meth c H locs 0 0 QQ (F0 m 0 ls []) from hI _ _ hP hS
  clear hP hS
  intro H locs hP hS
  refine lv_aload_n hx hb dX5_nearest_0 rfl (lv_at hl 0 rfl) ?_
  refine lv_iload_n hx hb dX5_nearest_1 rfl (lv_at hl 1 rfl) ?_
  refine lv_iload_n hx hb dX5_nearest_2 rfl (lv_at hl 2 rfl) ?_
  refine lv_iload_n hx hb dX5_nearest_3 rfl (lv_at hl 3 rfl) ?_
  refine lv_iconst (v := (0 : Int32)) hx hb dX5_nearest_4 (by decide) ?_
  refine lv_iconst (v := (1 : Int32)) hx hb dX5_nearest_5 (by decide) ?_
  obtain ⟨r1, hc2, hM⟩ := bnd1_at hM
  refine cm_i (w2 := (cMod Y oM mM tk)) (va_runS (As := [.int i3, .int (0 : Int32), .int (1 : Int32)]) (rest := [.int i2, .int i1, .ref (oM 0)]) ⟨hx, hb, hml, hown, hts⟩ (ctX5_in l D Y H.size i3 (0 : Int32) (1 : Int32) r1 hc2) (cwS 3 hts gX5_nearest_X5_in rfl rfl rfl (by decide +kernel) ⟨Nat.le_of_ble_eq_true rfl, Nat.le_of_ble_eq_true rfl⟩) (pcW_S hK hP (hD.same rfl) [] rfl (pc_map pc_nil)) rfl rfl hl.1 rfl (lv_room (Nat.le_of_ble_eq_true rfl)) dX5_nearest_6 ⟨Nat.zero_le _, Nat.zero_le _⟩) hP (hD.same rfl) hS hA [] (pc_map pc_nil) (up_old rfl rfl (up_old rfl rfl (up_old rfl rfl (up_old rfl rfl (up_old rfl rfl (up_old rfl rfl (up_old rfl rfl (up_old rfl rfl (up_old rfl rfl (up_old rfl rfl (up_old rfl rfl (up_old rfl rfl (up_old rfl rfl (up_old rfl rfl (up_old rfl rfl (up_old rfl rfl (up_old rfl rfl (up_old rfl rfl (up_old rfl rfl up_nil))))))))))))))))))) (fun H locs hP hS => ?_)
  obtain ⟨r3, hc4, hM⟩ := bnd1_at hM
  refine co_i (va_runV (As := [.int i1, .int i2, .int r1]) (rest := []) ⟨hx, hb, hml, hown, hts⟩ (ctX5_whyNot l D Y oM H.size mM tk i1 i2 r1 r3 hc4) (cwV 3 hts gX5_nearest_X5_whyNot rfl rfl rfl (by decide +kernel) ⟨Nat.le_of_ble_eq_true rfl, Nat.le_of_ble_eq_true rfl⟩) (pcW_V0 (ci := 5) (q0 := 0) hK hP (hD.same rfl) rfl rfl) rfl rfl hl.1 rfl (lv_room (Nat.le_of_ble_eq_true rfl)) dX5_nearest_9 ⟨Nat.zero_le _, Nat.zero_le _⟩) (hD.same rfl) hS hA (fun H locs hP hS => ?_)
  refine lv_istore (lv' := [(4, .int r3), (0, .ref (oM 0)), (1, .int i1), (2, .int i2), (3, .int i3)]) hx hb dX5_nearest_12 hl (by decide) rfl (fun ls hl => ?_)
  refine lv_iload hx hb dX5_nearest_14 (lv_at hl 0 rfl) ?_
  refine lv_if_eq (tgt := 22) hx hb dX5_nearest_16 (by decide) (fun c5 => ?_) (fun c5 => ?_)
  · replace hM := if_at_pos hM c5
    refine lv_aload_n hx hb dX5_nearest_22 rfl (lv_at hl 1 rfl) ?_
    obtain ⟨mM_6, hc7, hM⟩ := bnd1_at hM
    refine co_v (va_runV (As := []) (rest := []) ⟨hx, hb, hml, hown, hts⟩ (ctX5_putAside l D Y oM H.size mM tk mM_6 hc7) (cwV 0 hts gX5_nearest_X5_putAside rfl rfl rfl (by decide +kernel) ⟨Nat.le_of_ble_eq_true rfl, Nat.le_of_ble_eq_true rfl⟩) (pcW_V0 (ci := 5) (q0 := 0) hK hP (hD.same rfl) rfl rfl) rfl rfl hl.1 rfl (lv_room (Nat.le_of_ble_eq_true rfl)) dX5_nearest_23 ⟨Nat.zero_le _, Nat.zero_le _⟩) (hD.same rfl) hS hA (fun H locs hP hS => ?_)
    refine lv_iconst (v := (-1 : Int32)) hx hb dX5_nearest_26 (by decide) ?_
    refine lv_istore (lv' := [(5, .int (-1 : Int32)), (4, .int r3), (0, .ref (oM 0)), (1, .int i1), (2, .int i2), (3, .int i3)]) hx hb dX5_nearest_27 hl (by decide) rfl (fun ls hl => ?_)
    refine lv_iconst (v := (-1 : Int32)) hx hb dX5_nearest_29 (by decide) ?_
    refine lv_istore (lv' := [(6, .int (-1 : Int32)), (5, .int (-1 : Int32)), (4, .int r3), (0, .ref (oM 0)), (1, .int i1), (2, .int i2), (3, .int i3)]) hx hb dX5_nearest_30 hl (by decide) rfl (fun ls hl => ?_)
    refine lv_iconst (v := (0 : Int32)) hx hb dX5_nearest_32 (by decide) ?_
    refine lv_istore (lv' := [(7, .int (0 : Int32)), (6, .int (-1 : Int32)), (5, .int (-1 : Int32)), (4, .int r3), (0, .ref (oM 0)), (1, .int i1), (2, .int i2), (3, .int i3)]) hx hb dX5_nearest_33 hl (by decide) rfl (fun ls hl => ?_)
    refine jn3_at (fun (x8 : Int32) (x9 : Int32) (mM_10 : GS) => ∀ (H : Heap) (locs : List Loc) (ls : Array Slot), va_P D vwCl (cMod Y oM mM_10 tk) H → va_S A s.heap H locs → lv_has ls 9 [(3, .int i3), (5, .int x8), (6, .int x9)] → W p l e (headSpec wsX5_nearest rmX5_nearest).room s m ([.ref (oM 0), .int i1, .int i2, .int i3] : List Value).toArray below meth c H locs 0 0 QQ (F0 m 86 ls [])) hM (fun x8 x9 mM_10 hM H locs ls hP hS hl => ?_) (fun k11 hJ11 hM => ?_)
    · refine lv_iload hx hb dX5_nearest_86 (lv_at hl 1 rfl) ?_
      refine lv_iconst (v := (-1 : Int32)) hx hb dX5_nearest_88 (by decide) ?_
      refine jn1_at (fun (x12 : Int32) => ∀ (H : Heap) (locs : List Loc) (ls : Array Slot), va_P D vwCl (cMod Y oM mM_10 tk) H → va_S A s.heap H locs → lv_has ls 9 [] → W p l e (headSpec wsX5_nearest rmX5_nearest).room s m ([.ref (oM 0), .int i1, .int i2, .int i3] : List Value).toArray below meth c H locs 0 0 QQ (F0 m 115 ls [.int x12])) hM (fun x12 hM H locs ls hP hS hl => ?_) (fun k13 hJ13 hM => ?_)
      · cases hM
        rw [hQQ]
        exact W.iret hx hb hr (fun t ht hW => ⟨⟨_, (), rfl, rfl, by show va_P D vwCl _ t.heap; rw [ht]; exact hP⟩, hS.F ht⟩) hS.2.2 dX5_nearest_115
      · refine jn0_at (∀ (H : Heap) (locs : List Loc) (ls : Array Slot), va_P D vwCl (cMod Y oM mM_10 tk) H → va_S A s.heap H locs → lv_has ls 9 [(5, .int x8)] → W p l e (headSpec wsX5_nearest rmX5_nearest).room s m ([.ref (oM 0), .int i1, .int i2, .int i3] : List Value).toArray below meth c H locs 0 0 QQ (F0 m 96 ls [])) hM (fun  hM H locs ls hP hS hl => ?_) (fun k14 hJ14 hM => ?_)
        · refine lv_iload hx hb dX5_nearest_96 (lv_at hl 0 rfl) ?_
          refine lv_goto (tgt := 115) hx hb dX5_nearest_98 (by decide) ?_
          exact hJ13 x8 hM H locs ls hP hS (lv_sub hl [] rfl)
        · refine lv_icmp_eq (tgt := 96) hx hb dX5_nearest_89 (by decide) (fun c15 => ?_) (fun c15 => ?_)
          · replace hM := if_at_pos hM c15
            exact hJ14 hM H locs ls hP hS (lv_sub hl [1] rfl)
          · replace hM := if_at_neg hM c15
            refine lv_iload_n hx hb dX5_nearest_92 rfl (lv_at hl 0 rfl) ?_
            refine lv_if_ne (tgt := 101) hx hb dX5_nearest_93 (by decide) (fun c16 => ?_) (fun c16 => ?_)
            · replace hM := if_at_neg hM c16
              refine lv_iload hx hb dX5_nearest_101 (lv_at hl 2 rfl) ?_
              refine lv_sipush (v := (999 : Int32)) hx hb dX5_nearest_103 (by decide) ?_
              refine lv_icmp_ne (tgt := 113) hx hb dX5_nearest_106 (by decide) (fun c17 => ?_) (fun c17 => ?_)
              · replace hM := if_at_neg hM c17
                refine lv_iload hx hb dX5_nearest_113 (lv_at hl 2 rfl) ?_
                exact hJ13 x9 hM H locs ls hP hS (lv_sub hl [] rfl)
              · replace hM := if_at_pos hM c17
                refine lv_iconst (v := (-1 : Int32)) hx hb dX5_nearest_109 (by decide) ?_
                refine lv_goto (tgt := 115) hx hb dX5_nearest_110 (by decide) ?_
                exact hJ13 (-1 : Int32) hM H locs ls hP hS (lv_sub hl [] rfl)
            · replace hM := if_at_pos hM c16
              exact hJ14 hM H locs ls hP hS (lv_sub hl [1] rfl)
    · refine lq4_at (fun (x18 : Int32) (x19 : Int32) (x20 : Int32) (mM_21 : GS) => ∀ (H : Heap) (locs : List Loc) (ls : Array Slot), va_P D vwCl (cMod Y oM mM_21 tk) H → va_S A s.heap H locs → lv_has ls 9 [(0, .ref (oM 0)), (1, .int i1), (2, .int i2), (3, .int i3), (5, .int x18), (6, .int x19), (7, .int x20)] → W p l e (headSpec wsX5_nearest rmX5_nearest).room s m ([.ref (oM 0), .int i1, .int i2, .int i3] : List Value).toArray below meth c H locs 0 0 QQ (F0 m 35 ls [])) (fun rec22 x18 x19 x20 mM_21 ih22 hM H locs ls hP hS hl => ?_) FU (-1 : Int32) (-1 : Int32) (0 : Int32) mM_6 hM H locs ls hP hS (lv_sub hl [4, 5, 6, 7, 2, 1, 0] rfl)
      unfold BX5_nearest_35 at hM
      refine lv_iload hx hb dX5_nearest_35 (lv_at hl 6 rfl) ?_
      refine lv_bipush (v := (6 : Int32)) hx hb dX5_nearest_37 (by decide) ?_
      refine lv_icmp_ge (tgt := 86) hx hb dX5_nearest_39 (by decide) (fun c23 => ?_) (fun c23 => ?_)
      · replace hM := if_at_pos hM c23
        exact hJ11 x18 x19 mM_21 hM H locs ls hP hS (lv_sub hl [3, 4, 5] rfl)
      · replace hM := if_at_neg hM c23
        refine lv_iload hx hb dX5_nearest_42 (lv_at hl 4 rfl) ?_
        refine lv_iconst (v := (-1 : Int32)) hx hb dX5_nearest_44 (by decide) ?_
        refine lv_icmp_ne (tgt := 86) hx hb dX5_nearest_45 (by decide) (fun c24 => ?_) (fun c24 => ?_)
        · replace hM := if_at_neg hM c24
          exact hJ11 x18 x19 mM_21 hM H locs ls hP hS (lv_sub hl [3, 4, 5] rfl)
        · replace hM := if_at_pos hM c24
          refine lv_aload_n hx hb dX5_nearest_48 rfl (lv_at hl 0 rfl) ?_
          refine lv_iload_n hx hb dX5_nearest_49 rfl (lv_at hl 1 rfl) ?_
          refine lv_iload_n hx hb dX5_nearest_50 rfl (lv_at hl 2 rfl) ?_
          refine lv_iload hx hb dX5_nearest_51 (lv_at hl 6 rfl) ?_
          obtain ⟨r25, mM_26, hc27, hM⟩ := bnd2_at hM
          refine co_i (va_runV (As := [.int i1, .int i2, .int x20]) (rest := []) ⟨hx, hb, hml, hown, hts⟩ (ctX5_firstRow l D Y oM H.size mM_21 tk i1 i2 x20 r25 mM_26 hc27) (cwV 3 hts gX5_nearest_X5_firstRow rfl rfl rfl (by decide +kernel) ⟨Nat.le_of_ble_eq_true rfl, Nat.le_of_ble_eq_true rfl⟩) (pcW_V0 (ci := 5) (q0 := 0) hK hP (hD.same rfl) rfl rfl) rfl rfl hl.1 rfl (lv_room (Nat.le_of_ble_eq_true rfl)) dX5_nearest_53 ⟨Nat.zero_le _, Nat.zero_le _⟩) (hD.same rfl) hS hA (fun H locs hP hS => ?_)
          refine lv_istore (lv' := [(8, .int r25), (0, .ref (oM 0)), (1, .int i1), (2, .int i2), (3, .int i3), (5, .int x18), (6, .int x19), (7, .int x20)]) hx hb dX5_nearest_56 hl (by decide) rfl (fun ls hl => ?_)
          refine lv_aload_n hx hb dX5_nearest_58 rfl (lv_at hl 1 rfl) ?_
          obtain ⟨mM_28, hc29, hM⟩ := bnd1_at hM
          refine co_v (va_runV (As := []) (rest := []) ⟨hx, hb, hml, hown, hts⟩ (ctX5_putBack l D Y oM H.size mM_26 tk mM_28 hc29) (cwV 0 hts gX5_nearest_X5_putBack rfl rfl rfl (by decide +kernel) ⟨Nat.le_of_ble_eq_true rfl, Nat.le_of_ble_eq_true rfl⟩) (pcW_V0 (ci := 5) (q0 := 0) hK hP (hD.same rfl) rfl rfl) rfl rfl hl.1 rfl (lv_room (Nat.le_of_ble_eq_true rfl)) dX5_nearest_59 ⟨Nat.zero_le _, Nat.zero_le _⟩) (hD.same rfl) hS hA (fun H locs hP hS => ?_)
          refine lv_iload hx hb dX5_nearest_62 (lv_at hl 0 rfl) ?_
          refine lv_iconst (v := (-1 : Int32)) hx hb dX5_nearest_64 (by decide) ?_
          refine jn1_at (fun (x30 : Int32) => ∀ (H : Heap) (locs : List Loc) (ls : Array Slot), va_P D vwCl (cMod Y oM mM_28 tk) H → va_S A s.heap H locs → lv_has ls 9 [(0, .ref (oM 0)), (1, .int i1), (2, .int i2), (3, .int i3), (7, .int x20), (8, .int r25)] → W p l e (headSpec wsX5_nearest rmX5_nearest).room s m ([.ref (oM 0), .int i1, .int i2, .int i3] : List Value).toArray below meth c H locs 0 0 QQ (F0 m 74 ls [.int x30])) hM (fun x30 hM H locs ls hP hS hl => ?_) (fun k31 hJ31 hM => ?_)
          · refine lv_istore (lv' := [(5, .int x30), (0, .ref (oM 0)), (1, .int i1), (2, .int i2), (3, .int i3), (7, .int x20), (8, .int r25)]) hx hb dX5_nearest_74 hl (by decide) rfl (fun ls hl => ?_)
            refine lv_iload hx hb dX5_nearest_76 (lv_at hl 6 rfl) ?_
            refine lv_istore (lv' := [(6, .int r25), (5, .int x30), (0, .ref (oM 0)), (1, .int i1), (2, .int i2), (3, .int i3), (7, .int x20), (8, .int r25)]) hx hb dX5_nearest_78 hl (by decide) rfl (fun ls hl => ?_)
            obtain ⟨x32, ex32⟩ : ∃ z : Int32, z = (x20 + 1) := ⟨_, rfl⟩
            replace hM := nm_at hM ex32
            refine lv_iinc (v := x32) (lv' := [(7, .int x32), (6, .int r25), (5, .int x30), (0, .ref (oM 0)), (1, .int i1), (2, .int i2), (3, .int i3), (8, .int r25)]) hx hb dX5_nearest_80 hl (k := 6) rfl (by rw [ex32]; rfl) (by decide) rfl (fun ls hl => ?_)
            refine lv_goto (tgt := 35) hx hb dX5_nearest_83 (by decide) ?_
            exact ih22 x30 r25 x32 mM_28 hM H locs ls hP hS (lv_sub hl [3, 4, 5, 6, 2, 1, 0] rfl)
          · refine lv_icmp_ne (tgt := 72) hx hb dX5_nearest_65 (by decide) (fun c33 => ?_) (fun c33 => ?_)
            · replace hM := if_at_neg hM c33
              refine lv_iload hx hb dX5_nearest_72 (lv_at hl 7 rfl) ?_
              exact hJ31 x20 hM H locs ls hP hS (lv_sub hl [1, 2, 3, 4, 7, 0] rfl)
            · replace hM := if_at_pos hM c33
              refine lv_iconst (v := (-1 : Int32)) hx hb dX5_nearest_68 (by decide) ?_
              refine lv_goto (tgt := 74) hx hb dX5_nearest_69 (by decide) ?_
              exact hJ31 (-1 : Int32) hM H locs ls hP hS (lv_sub hl [1, 2, 3, 4, 7, 0] rfl)
  · replace hM := if_at_neg hM c5
    refine lv_iload hx hb dX5_nearest_19 (lv_at hl 0 rfl) ?_
    cases hM
    rw [hQQ]
    exact W.iret hx hb hr (fun t ht hW => ⟨⟨_, (), rfl, rfl, by show va_P D vwCl _ t.heap; rw [ht]; exact hP⟩, hS.F ht⟩) hS.2.2 dX5_nearest_21
noncomputable def BX5_doMeet_15 (i3 : Int32) (k7 : Int32 → GS → Option (Int32 × GS)) (i1 : Int32) (i2 : Int32) (rec14 : Int32 → Int32 → GS → Option (Int32 × GS)) (x11 : Int32) (x12 : Int32) (mM_13 : GS) : Option (Int32 × GS) := if i3 ≤ x12 then (k7 x11 mM_13) else (if x11 = 0 then (bnd1 (MX5_goNight mM_13) fun (mM_17 : GS) => bnd1 (MX5_areBeside mM_17 i1 i2) fun (r19 : Int32) => nm (x12 + 1) fun (x21 : Int32) => rec14 r19 x21 mM_17) else (k7 x11 mM_13))
noncomputable def MX5_doMeet (mM : GS) (i1 : Int32) (i2 : Int32) (i3 : Int32) : Option (Int32 × GS) := bnd1 (MX5_putAside mM) fun (mM_1 : GS) => bnd1 (MX5_areBeside mM_1 i1 i2) fun (r3 : Int32) => jn2 (fun (x5 : Int32) (mM_6 : GS) => bnd1 (MX5_putBack mM_6) fun (mM_8 : GS) => chkB x5 (some (x5, mM_8))) (fun k7 => lq3 (BX5_doMeet_15 i3 k7 i1 i2) FU r3 (0 : Int32) mM_1)
abbrev rmX5_doMeet : Room := { frames := 6, cells := 0, slots := 0, locals := 240 }
set_option maxHeartbeats 4000000 in
set_option maxRecDepth 100000 in
theorem ctX5_doMeet (l : Launch) (D : va_G) (Y : Nat → ClassId) (oM : Nat → Nat) (sz : Nat) (mM : GS) (tk : Int64) (i1 : Int32) (i2 : Int32) (i3 : Int32) (rr : Int32) (mMz : GS) (hM : MX5_doMeet mM i1 i2 i3 = some (rr, mMz)) : Met l yX5_doMeet wsX5_doMeet rmX5_doMeet (pcW [.ref (oM 0), .int i1, .int i2, .int i3] sz D Y (cMod Y oM mM tk)) (qiW rr D (cMod Y oM mMz tk) (va_A (cMod Y oM mM tk) sz)) 0 0 (va_A (cMod Y oM mM tk) sz) := by
  refine Met.ofW (cc := cX5_doMeet) (maxL := 6) (ret := (some .boolean)) (by decide) rfl ?_
  intro p e s m args below meth c s₁ B hml hv
  obtain ⟨rfl, hsz, hP, hK, hD0⟩ := hv
  have hx := B.exec
  have hb := B.bytes
  have hr := B.returns
  have hts := atoms_spec (ws := wsX5_doMeet) B.pre
  have hown : s.vm.findClass RX5 = some m.cls := findClass_of_methodNamed B.named
  have hlocks := B.notSynchronized
  subst hsz
  have hD := hD0.self (sz := s.heap.size)
  generalize hAe : va_A (cMod Y oM mM tk) s.heap.size = A at hD ⊢
  have hA : ∀ q : Nat, s.heap.size ≤ q → A q := fun q h => by rw [← hAe]; exact Or.inr h
  have hS : va_S A s.heap s.heap [] := va_S.rf
  have hl := lv_entry ([.ref (oM 0), .int i1, .int i2, .int i3]) (n := 6) (Nat.le_of_ble_eq_true rfl)
  rw [lg_entry_eq]
  generalize (lg_sl ([.ref (oM 0), .int i1, .int i2, .int i3]) ++ List.replicate (6 - (lg_sl ([.ref (oM 0), .int i1, .int i2, .int i3])).length) Slot.unset).toArray = ls at hl ⊢
  have hl : lv_has ls 6 [(0, .ref (oM 0)), (1, .int i1), (2, .int i2), (3, .int i3)] := hl
  obtain ⟨QQ, hQQ⟩ : ∃ Q : State → Prop, Q = MQ below (qiW rr D (cMod Y oM mMz tk) A) ([.ref (oM 0), .int i1, .int i2, .int i3] : List Value).toArray s 0 0 A := ⟨_, rfl⟩
  rw [← hQQ]
  unfold MX5_doMeet at hM
  suffices hI : ∀ (H : Heap) (locs : List Loc), va_P D vwCl (cMod Y oM mM tk) H → va_S A s.heap H locs → W p l e (headSpec wsX5_doMeet rmX5_doMeet).room s m ([.ref (oM 0), .int i1, .int i2, .int i3] : List Value).toArray below meth c H locs 0 0 QQ (F0 m 0 ls []) from hI _ _ hP hS
  clear hP hS
  intro H locs hP hS
  refine lv_aload_n hx hb dX5_doMeet_0 rfl (lv_at hl 0 rfl) ?_
  obtain ⟨mM_1, hc2, hM⟩ := bnd1_at hM
  refine co_v (va_runV (As := []) (rest := []) ⟨hx, hb, hml, hown, hts⟩ (ctX5_putAside l D Y oM H.size mM tk mM_1 hc2) (cwV 0 hts gX5_doMeet_X5_putAside rfl rfl rfl (by decide +kernel) ⟨Nat.le_of_ble_eq_true rfl, Nat.le_of_ble_eq_true rfl⟩) (pcW_V0 (ci := 5) (q0 := 0) hK hP (hD.same rfl) rfl rfl) rfl rfl hl.1 rfl (lv_room (Nat.le_of_ble_eq_true rfl)) dX5_doMeet_1 ⟨Nat.zero_le _, Nat.zero_le _⟩) (hD.same rfl) hS hA (fun H locs hP hS => ?_)
  refine lv_aload_n hx hb dX5_doMeet_4 rfl (lv_at hl 0 rfl) ?_
  refine lv_iload_n hx hb dX5_doMeet_5 rfl (lv_at hl 1 rfl) ?_
  refine lv_iload_n hx hb dX5_doMeet_6 rfl (lv_at hl 2 rfl) ?_
  obtain ⟨r3, hc4, hM⟩ := bnd1_at hM
  refine co_i (va_runV (As := [.int i1, .int i2]) (rest := []) ⟨hx, hb, hml, hown, hts⟩ (ctX5_areBeside l D Y oM H.size mM_1 tk i1 i2 r3 hc4) (cwV 2 hts gX5_doMeet_X5_areBeside rfl rfl rfl (by decide +kernel) ⟨Nat.le_of_ble_eq_true rfl, Nat.le_of_ble_eq_true rfl⟩) (pcW_V0 (ci := 5) (q0 := 0) hK hP (hD.same rfl) rfl rfl) rfl rfl hl.1 rfl (lv_room (Nat.le_of_ble_eq_true rfl)) dX5_doMeet_7 ⟨Nat.zero_le _, Nat.zero_le _⟩) (hD.same rfl) hS hA (fun H locs hP hS => ?_)
  refine lv_istore (lv' := [(4, .int r3), (0, .ref (oM 0)), (1, .int i1), (2, .int i2), (3, .int i3)]) hx hb dX5_doMeet_10 hl (by decide) rfl (fun ls hl => ?_)
  refine lv_iconst (v := (0 : Int32)) hx hb dX5_doMeet_12 (by decide) ?_
  refine lv_istore (lv' := [(5, .int (0 : Int32)), (4, .int r3), (0, .ref (oM 0)), (1, .int i1), (2, .int i2), (3, .int i3)]) hx hb dX5_doMeet_13 hl (by decide) rfl (fun ls hl => ?_)
  refine jn2_at (fun (x5 : Int32) (mM_6 : GS) => ∀ (H : Heap) (locs : List Loc) (ls : Array Slot), va_P D vwCl (cMod Y oM mM_6 tk) H → va_S A s.heap H locs → lv_has ls 6 [(0, .ref (oM 0)), (4, .int x5)] → W p l e (headSpec wsX5_doMeet rmX5_doMeet).room s m ([.ref (oM 0), .int i1, .int i2, .int i3] : List Value).toArray below meth c H locs 0 0 QQ (F0 m 44 ls [])) hM (fun x5 mM_6 hM H locs ls hP hS hl => ?_) (fun k7 hJ7 hM => ?_)
  · refine lv_aload_n hx hb dX5_doMeet_44 rfl (lv_at hl 0 rfl) ?_
    obtain ⟨mM_8, hc9, hM⟩ := bnd1_at hM
    refine co_v (va_runV (As := []) (rest := []) ⟨hx, hb, hml, hown, hts⟩ (ctX5_putBack l D Y oM H.size mM_6 tk mM_8 hc9) (cwV 0 hts gX5_doMeet_X5_putBack rfl rfl rfl (by decide +kernel) ⟨Nat.le_of_ble_eq_true rfl, Nat.le_of_ble_eq_true rfl⟩) (pcW_V0 (ci := 5) (q0 := 0) hK hP (hD.same rfl) rfl rfl) rfl rfl hl.1 rfl (lv_room (Nat.le_of_ble_eq_true rfl)) dX5_doMeet_45 ⟨Nat.zero_le _, Nat.zero_le _⟩) (hD.same rfl) hS hA (fun H locs hP hS => ?_)
    refine lv_iload hx hb dX5_doMeet_48 (lv_at hl 1 rfl) ?_
    obtain ⟨hz10, hM⟩ := chkB_at hM
    cases hM
    rw [hQQ]
    exact W.zret (ty := .boolean) hx hb hr hz10 (fun t ht hW => ⟨⟨_, (), rfl, rfl, by show va_P D vwCl _ t.heap; rw [ht]; exact hP⟩, hS.F ht⟩) hS.2.2 dX5_doMeet_50
  · refine lq3_at (fun (x11 : Int32) (x12 : Int32) (mM_13 : GS) => ∀ (H : Heap) (locs : List Loc) (ls : Array Slot), va_P D vwCl (cMod Y oM mM_13 tk) H → va_S A s.heap H locs → lv_has ls 6 [(0, .ref (oM 0)), (1, .int i1), (2, .int i2), (3, .int i3), (4, .int x11), (5, .int x12)] → W p l e (headSpec wsX5_doMeet rmX5_doMeet).room s m ([.ref (oM 0), .int i1, .int i2, .int i3] : List Value).toArray below meth c H locs 0 0 QQ (F0 m 15 ls [])) (fun rec14 x11 x12 mM_13 ih14 hM H locs ls hP hS hl => ?_) FU r3 (0 : Int32) mM_1 hM H locs ls hP hS (lv_sub hl [2, 3, 4, 5, 1, 0] rfl)
    unfold BX5_doMeet_15 at hM
    refine lv_iload hx hb dX5_doMeet_15 (lv_at hl 5 rfl) ?_
    refine lv_iload_n hx hb dX5_doMeet_17 rfl (lv_at hl 3 rfl) ?_
    refine lv_icmp_ge (tgt := 44) hx hb dX5_doMeet_18 (by decide) (fun c15 => ?_) (fun c15 => ?_)
    · replace hM := if_at_pos hM c15
      exact hJ7 x11 mM_13 hM H locs ls hP hS (lv_sub hl [0, 4] rfl)
    · replace hM := if_at_neg hM c15
      refine lv_iload hx hb dX5_doMeet_21 (lv_at hl 4 rfl) ?_
      refine lv_if_ne (tgt := 44) hx hb dX5_doMeet_23 (by decide) (fun c16 => ?_) (fun c16 => ?_)
      · replace hM := if_at_neg hM c16
        exact hJ7 x11 mM_13 hM H locs ls hP hS (lv_sub hl [0, 4] rfl)
      · replace hM := if_at_pos hM c16
        refine lv_aload_n hx hb dX5_doMeet_26 rfl (lv_at hl 0 rfl) ?_
        obtain ⟨mM_17, hc18, hM⟩ := bnd1_at hM
        refine co_v (va_runV (As := []) (rest := []) ⟨hx, hb, hml, hown, hts⟩ (ctX5_goNight l D Y oM H.size mM_13 tk mM_17 hc18) (cwV 0 hts gX5_doMeet_X5_goNight rfl rfl rfl (by decide +kernel) ⟨Nat.le_of_ble_eq_true rfl, Nat.le_of_ble_eq_true rfl⟩) (pcW_V0 (ci := 5) (q0 := 0) hK hP (hD.same rfl) rfl rfl) rfl rfl hl.1 rfl (lv_room (Nat.le_of_ble_eq_true rfl)) dX5_doMeet_27 ⟨Nat.zero_le _, Nat.zero_le _⟩) (hD.same rfl) hS hA (fun H locs hP hS => ?_)
        refine lv_aload_n hx hb dX5_doMeet_30 rfl (lv_at hl 0 rfl) ?_
        refine lv_iload_n hx hb dX5_doMeet_31 rfl (lv_at hl 1 rfl) ?_
        refine lv_iload_n hx hb dX5_doMeet_32 rfl (lv_at hl 2 rfl) ?_
        obtain ⟨r19, hc20, hM⟩ := bnd1_at hM
        refine co_i (va_runV (As := [.int i1, .int i2]) (rest := []) ⟨hx, hb, hml, hown, hts⟩ (ctX5_areBeside l D Y oM H.size mM_17 tk i1 i2 r19 hc20) (cwV 2 hts gX5_doMeet_X5_areBeside rfl rfl rfl (by decide +kernel) ⟨Nat.le_of_ble_eq_true rfl, Nat.le_of_ble_eq_true rfl⟩) (pcW_V0 (ci := 5) (q0 := 0) hK hP (hD.same rfl) rfl rfl) rfl rfl hl.1 rfl (lv_room (Nat.le_of_ble_eq_true rfl)) dX5_doMeet_33 ⟨Nat.zero_le _, Nat.zero_le _⟩) (hD.same rfl) hS hA (fun H locs hP hS => ?_)
        refine lv_istore (lv' := [(4, .int r19), (0, .ref (oM 0)), (1, .int i1), (2, .int i2), (3, .int i3), (5, .int x12)]) hx hb dX5_doMeet_36 hl (by decide) rfl (fun ls hl => ?_)
        obtain ⟨x21, ex21⟩ : ∃ z : Int32, z = (x12 + 1) := ⟨_, rfl⟩
        replace hM := nm_at hM ex21
        refine lv_iinc (v := x21) (lv' := [(5, .int x21), (4, .int r19), (0, .ref (oM 0)), (1, .int i1), (2, .int i2), (3, .int i3)]) hx hb dX5_doMeet_38 hl (k := 5) rfl (by rw [ex21]; rfl) (by decide) rfl (fun ls hl => ?_)
        refine lv_goto (tgt := 15) hx hb dX5_doMeet_41 (by decide) ?_
        exact ih14 r19 x21 mM_17 hM H locs ls hP hS (lv_sub hl [2, 3, 4, 5, 1, 0] rfl)
noncomputable def BX5_mend_2 (k2 : GS → Option (GS)) (i1 : Int32) (i2 : Int32) (rec5 : Int32 → GS → Option (GS)) (x3 : Int32) (mM_4 : GS) : Option (GS) := if (mM_4 0 2) ≤ x3 then (k2 mM_4) else (bnd1 (MX5_has i1 x3) fun (r7 : Int32) => jn1 (fun (x9 : Int32) => chkI x3 8 (nm (upA mM_4 2 (upd (mM_4 2) x3.toNatClampNeg x9)) fun (mM_12 : GS) => nm (x3 + 1) fun (x13 : Int32) => rec5 x13 mM_12)) (fun k10 => if r7 = 0 then (chkI x3 8 (k10 (mM_4 2 x3.toNatClampNeg))) else (k10 i2)))
noncomputable def MX5_mend (mM : GS) (i1 : Int32) (i2 : Int32) : Option (GS) := jn1 (fun (mM_1 : GS) => some (mM_1)) (fun k2 => lq2 (BX5_mend_2 k2 i1 i2) FU (0 : Int32) mM)
abbrev rmX5_mend : Room := { frames := 2, cells := 0, slots := 0, locals := 80 }
set_option maxHeartbeats 4000000 in
set_option maxRecDepth 100000 in
theorem ctX5_mend (l : Launch) (D : va_G) (Y : Nat → ClassId) (oM : Nat → Nat) (sz : Nat) (mM : GS) (tk : Int64) (i1 : Int32) (i2 : Int32) (mMz : GS) (hM : MX5_mend mM i1 i2 = some (mMz)) : Met l yX5_mend wsX5_mend rmX5_mend (pcW [.ref (oM 0), .int i1, .int i2] sz D Y (cMod Y oM mM tk)) (qvW D (cMod Y oM mMz tk) (va_A (cMod Y oM mM tk) sz)) 0 0 (va_A (cMod Y oM mM tk) sz) := by
  refine Met.ofW (cc := cX5_mend) (maxL := 4) (ret := (none)) (by decide) rfl ?_
  intro p e s m args below meth c s₁ B hml hv
  obtain ⟨rfl, hsz, hP, hK, hD0⟩ := hv
  have hx := B.exec
  have hb := B.bytes
  have hr := B.returns
  have hts := atoms_spec (ws := wsX5_mend) B.pre
  have hown : s.vm.findClass RX5 = some m.cls := findClass_of_methodNamed B.named
  have hlocks := B.notSynchronized
  subst hsz
  have hD := hD0.self (sz := s.heap.size)
  generalize hAe : va_A (cMod Y oM mM tk) s.heap.size = A at hD ⊢
  have hA : ∀ q : Nat, s.heap.size ≤ q → A q := fun q h => by rw [← hAe]; exact Or.inr h
  have hS : va_S A s.heap s.heap [] := va_S.rf
  have hi5 : ∀ w ∈ wsX50, w ∈ wsX5_mend := fun w h => List.mem_cons_of_mem _ (List.mem_append_right _ h)
  have hl := lv_entry ([.ref (oM 0), .int i1, .int i2]) (n := 4) (Nat.le_of_ble_eq_true rfl)
  rw [lg_entry_eq]
  generalize (lg_sl ([.ref (oM 0), .int i1, .int i2]) ++ List.replicate (4 - (lg_sl ([.ref (oM 0), .int i1, .int i2])).length) Slot.unset).toArray = ls at hl ⊢
  have hl : lv_has ls 4 [(0, .ref (oM 0)), (1, .int i1), (2, .int i2)] := hl
  obtain ⟨QQ, hQQ⟩ : ∃ Q : State → Prop, Q = MQ below (qvW D (cMod Y oM mMz tk) A) ([.ref (oM 0), .int i1, .int i2] : List Value).toArray s 0 0 A := ⟨_, rfl⟩
  rw [← hQQ]
  unfold MX5_mend at hM
  suffices hI : ∀ (H : Heap) (locs : List Loc), va_P D vwCl (cMod Y oM mM tk) H → va_S A s.heap H locs → W p l e (headSpec wsX5_mend rmX5_mend).room s m ([.ref (oM 0), .int i1, .int i2] : List Value).toArray below meth c H locs 0 0 QQ (F0 m 0 ls []) from hI _ _ hP hS
  clear hP hS
  intro H locs hP hS
  refine lv_iconst (v := (0 : Int32)) hx hb dX5_mend_0 (by decide) ?_
  refine lv_istore_n (lv' := [(3, .int (0 : Int32)), (0, .ref (oM 0)), (1, .int i1), (2, .int i2)]) hx hb dX5_mend_1 rfl hl (by decide) rfl (fun ls hl => ?_)
  refine jn1_at (fun (mM_1 : GS) => ∀ (H : Heap) (locs : List Loc) (ls : Array Slot), va_P D vwCl (cMod Y oM mM_1 tk) H → va_S A s.heap H locs → lv_has ls 4 [] → W p l e (headSpec wsX5_mend rmX5_mend).room s m ([.ref (oM 0), .int i1, .int i2] : List Value).toArray below meth c H locs 0 0 QQ (F0 m 40 ls [])) hM (fun mM_1 hM H locs ls hP hS hl => ?_) (fun k2 hJ2 hM => ?_)
  · cases hM
    rw [hQQ]
    exact W.vret hx hb hr (fun t ht hW => ⟨⟨(), rfl, trivial, by show va_P D vwCl _ t.heap; rw [ht]; exact hP⟩, hS.F ht⟩) hS.2.2 dX5_mend_40
  · refine lq2_at (fun (x3 : Int32) (mM_4 : GS) => ∀ (H : Heap) (locs : List Loc) (ls : Array Slot), va_P D vwCl (cMod Y oM mM_4 tk) H → va_S A s.heap H locs → lv_has ls 4 [(0, .ref (oM 0)), (1, .int i1), (2, .int i2), (3, .int x3)] → W p l e (headSpec wsX5_mend rmX5_mend).room s m ([.ref (oM 0), .int i1, .int i2] : List Value).toArray below meth c H locs 0 0 QQ (F0 m 2 ls [])) (fun rec5 x3 mM_4 ih5 hM H locs ls hP hS hl => ?_) FU (0 : Int32) mM hM H locs ls hP hS (lv_sub hl [1, 2, 3, 0] rfl)
    unfold BX5_mend_2 at hM
    refine lv_iload_n hx hb dX5_mend_2 rfl (lv_at hl 3 rfl) ?_
    refine lv_aload_n hx hb dX5_mend_3 rfl (lv_at hl 0 rfl) ?_
    refine va_get hx hb hts hi5 hown hK hP 0 rfl rfl 2 (by decide) (hts (.fieldLink RX5 78 "NightPlotsModel" "houses" "I") (List.mem_of_getElem? (i := 1) rfl)) (fun _ h9 => h9) rfl dX5_mend_4 ?_
    refine lv_icmp_ge (tgt := 40) hx hb dX5_mend_7 (by decide) (fun c6 => ?_) (fun c6 => ?_)
    · replace hM := if_at_pos hM c6
      exact hJ2 mM_4 hM H locs ls hP hS (lv_sub hl [] rfl)
    · replace hM := if_at_neg hM c6
      refine lv_aload_n hx hb dX5_mend_10 rfl (lv_at hl 0 rfl) ?_
      refine va_get hx hb hts hi5 hown hK hP 0 rfl rfl 3 (by decide) (hts (.fieldLink RX5 17 "NightPlotsModel" "kind" "[I") (List.mem_of_getElem? (i := 2) rfl)) (fun _ h9 => h9) rfl dX5_mend_11 ?_
      refine lv_iload_n hx hb dX5_mend_14 rfl (lv_at hl 3 rfl) ?_
      refine lv_iload_n hx hb dX5_mend_15 rfl (lv_at hl 1 rfl) ?_
      refine lv_iload_n hx hb dX5_mend_16 rfl (lv_at hl 3 rfl) ?_
      obtain ⟨r7, hc8, hM⟩ := bnd1_at hM
      refine cm_i (w2 := (cMod Y oM mM_4 tk)) (va_runS (As := [.int i1, .int x3]) (rest := [.int x3, .ref (oM 2)]) ⟨hx, hb, hml, hown, hts⟩ (ctX5_has l D Y H.size i1 x3 r7 hc8) (cwS 2 hts gX5_mend_X5_has rfl rfl rfl (by decide +kernel) ⟨Nat.le_of_ble_eq_true rfl, Nat.le_of_ble_eq_true rfl⟩) (pcW_S hK hP (hD.same rfl) [] rfl (pc_map pc_nil)) rfl rfl hl.1 rfl (lv_room (Nat.le_of_ble_eq_true rfl)) dX5_mend_17 ⟨Nat.zero_le _, Nat.zero_le _⟩) hP (hD.same rfl) hS hA [] (pc_map pc_nil) (up_old rfl rfl (up_old rfl rfl (up_old rfl rfl (up_old rfl rfl (up_old rfl rfl (up_old rfl rfl (up_old rfl rfl (up_old rfl rfl (up_old rfl rfl (up_old rfl rfl (up_old rfl rfl (up_old rfl rfl (up_old rfl rfl (up_old rfl rfl (up_old rfl rfl (up_old rfl rfl (up_old rfl rfl (up_old rfl rfl (up_old rfl rfl up_nil))))))))))))))))))) (fun H locs hP hS => ?_)
      refine jn1_at (fun (x9 : Int32) => ∀ (H : Heap) (locs : List Loc) (ls : Array Slot), va_P D vwCl (cMod Y oM mM_4 tk) H → va_S A s.heap H locs → lv_has ls 4 [(0, .ref (oM 0)), (1, .int i1), (2, .int i2), (3, .int x3)] → W p l e (headSpec wsX5_mend rmX5_mend).room s m ([.ref (oM 0), .int i1, .int i2] : List Value).toArray below meth c H locs 0 0 QQ (F0 m 33 ls [.int x9, .int x3, .ref (oM 2)])) hM (fun x9 hM H locs ls hP hS hl => ?_) (fun k10 hJ10 hM => ?_)
      · obtain ⟨hi_11, hM⟩ := chkI_at hM
        refine va_iast hx hb hK hP (hD.same rfl) hS 2 0 rfl rfl hi_11 dX5_mend_33 (fun H locs hP _ hS => ?_)
        obtain ⟨mM_12, emM_12⟩ : ∃ z : GS, z = (upA mM_4 2 (upd (mM_4 2) x3.toNatClampNeg x9)) := ⟨_, rfl⟩
        have hP : va_P D vwCl (cMod Y oM mM_12 tk) H := by rw [emM_12]; exact hP
        replace hM := nm_at hM emM_12
        obtain ⟨x13, ex13⟩ : ∃ z : Int32, z = (x3 + 1) := ⟨_, rfl⟩
        replace hM := nm_at hM ex13
        refine lv_iinc (v := x13) (lv' := [(3, .int x13), (0, .ref (oM 0)), (1, .int i1), (2, .int i2)]) hx hb dX5_mend_34 hl (k := 3) rfl (by rw [ex13]; rfl) (by decide) rfl (fun ls hl => ?_)
        refine lv_goto (tgt := 2) hx hb dX5_mend_37 (by decide) ?_
        exact ih5 x13 mM_12 hM H locs ls hP hS (lv_sub hl [1, 2, 3, 0] rfl)
      · refine lv_if_eq (tgt := 27) hx hb dX5_mend_20 (by decide) (fun c14 => ?_) (fun c14 => ?_)
        · replace hM := if_at_pos hM c14
          refine lv_aload_n hx hb dX5_mend_27 rfl (lv_at hl 0 rfl) ?_
          refine va_get hx hb hts hi5 hown hK hP 0 rfl rfl 3 (by decide) (hts (.fieldLink RX5 17 "NightPlotsModel" "kind" "[I") (List.mem_of_getElem? (i := 2) rfl)) (fun _ h9 => h9) rfl dX5_mend_28 ?_
          refine lv_iload_n hx hb dX5_mend_31 rfl (lv_at hl 3 rfl) ?_
          obtain ⟨hi_15, hM⟩ := chkI_at hM
          refine va_iald hx hb hK hP 2 0 rfl rfl hi_15 dX5_mend_32 ?_
          exact hJ10 (mM_4 2 x3.toNatClampNeg) hM H locs ls hP hS (lv_sub hl [0, 1, 2, 3] rfl)
        · replace hM := if_at_neg hM c14
          refine lv_iload_n hx hb dX5_mend_23 rfl (lv_at hl 2 rfl) ?_
          refine lv_goto (tgt := 33) hx hb dX5_mend_24 (by decide) ?_
          exact hJ10 i2 hM H locs ls hP hS (lv_sub hl [0, 1, 2, 3] rfl)
noncomputable def BX5_mends_112 (mM_22 : GS) (k26 : Int32 → Option (Int32 × GS)) (x21 : Int32) (rec51 : Int32 → Int32 → Option (Int32 × GS)) (x49 : Int32) (x50 : Int32) : Option (Int32 × GS) := if (mM_22 0 2) ≤ x50 then (k26 x49) else (bnd1 (MX5_has x21 x50) fun (r53 : Int32) => jn1 (fun (x55 : Int32) => nm (x49 + x55) fun (x57 : Int32) => nm (x50 + 1) fun (x58 : Int32) => rec51 x57 x58) (fun k56 => if r53 = 0 then (k56 (0 : Int32)) else (k56 ((1 : Int32) + x50))))
noncomputable def BX5_mends_95 (k13 : Int32 → Int32 → GS → Option (Int32 × GS)) (x8 : Int32) (i1 : Int32) (i2 : Int32) (i3 : Int32) (rec23 : Int32 → Int32 → Int32 → GS → Option (Int32 × GS)) (x19 : Int32) (x20 : Int32) (x21 : Int32) (mM_22 : GS) : Option (Int32 × GS) := if ((1 : Int32) <<< ((mM_22 0 2) &&& 31)) ≤ x21 then (k13 x19 x20 mM_22) else (jn1 (fun (x25 : Int32) => jn3 (fun (x27 : Int32) (x28 : Int32) (mM_29 : GS) => nm (x21 + 1) fun (x31 : Int32) => rec23 x27 x28 x31 mM_29) (fun k30 => if (x21 &&& (x8 ^^^ (-1 : Int32))) = 0 then (jn0 (bnd1 (MX5_mend mM_22 x21 (0 : Int32)) fun (mM_34 : GS) => bnd2 (MX5_doMeet mM_34 i1 i2 i3) fun (r36 : Int32) (mM_37 : GS) => jn1 (fun (x39 : Int32) => jn1 (fun (x41 : Int32) => bnd1 (MX5_mend mM_37 x21 (2 : Int32)) fun (mM_43 : GS) => k30 x39 x41 mM_43) (fun k42 => if x39 = x21 then (k42 x25) else (k42 x20))) (fun k40 => if r36 = 0 then (k40 x19) else (k40 x21))) (fun k33 => if x19 = (-1 : Int32) then (k33) else (if x20 ≤ x25 then (k30 x19 x20 mM_22) else (k33)))) else (k30 x19 x20 mM_22))) (fun k26 => lq2 (BX5_mends_112 mM_22 k26 x21) FU (0 : Int32) (0 : Int32)))
noncomputable def BX5_mends_47 (mM : GS) (k9 : Int32 → Option (Int32 × GS)) (rec62 : Int32 → Int32 → Option (Int32 × GS)) (x60 : Int32) (x61 : Int32) : Option (Int32 × GS) := if (mM 0 2) ≤ x61 then (k9 x60) else (chkI x61 8 (jn1 (fun (x65 : Int32) => nm (x60 ||| x65) fun (x67 : Int32) => nm (x61 + 1) fun (x68 : Int32) => rec62 x67 x68) (fun k66 => if (mM 2 x61.toNatClampNeg) = (2 : Int32) then (k66 ((1 : Int32) <<< (x61 &&& 31))) else (k66 (0 : Int32)))))
noncomputable def MX5_mends (mM : GS) (i1 : Int32) (i2 : Int32) (i3 : Int32) (i4 : Int32) : Option (Int32 × GS) := bnd1 (MX5_in i3 (0 : Int32) (99 : Int32)) fun (r1 : Int32) => jn1 (fun (x3 : Int32) => bnd1 (MX5_whyNot mM i1 i2 x3) fun (r5 : Int32) => if r5 = 0 then (jn1 (fun (x8 : Int32) => jn3 (fun (x10 : Int32) (x11 : Int32) (mM_12 : GS) => jn1 (fun (x14 : Int32) => some (x14, mM_12)) (fun k15 => jn0 (k15 x10) (fun k16 => if x10 = (-1 : Int32) then (k16) else (if i4 = (1 : Int32) then (k16) else (k15 x11))))) (fun k13 => lq4 (BX5_mends_95 k13 x8 i1 i2 i3) FU (-1 : Int32) (0 : Int32) (0 : Int32) mM)) (fun k9 => lq2 (BX5_mends_47 mM k9) FU (0 : Int32) (0 : Int32))) else (some (r5, mM))) (fun k4 => jn0 (k4 (0 : Int32)) (fun k70 => if r1 = 0 then (k70) else (bnd1 (MX5_in i4 (0 : Int32) (1 : Int32)) fun (r72 : Int32) => if r72 = 0 then (k70) else (k4 (1 : Int32)))))
abbrev rmX5_mends : Room := { frames := 7, cells := 0, slots := 0, locals := 280 }
set_option maxHeartbeats 4000000 in
set_option maxRecDepth 100000 in
theorem ctX5_mends (l : Launch) (D : va_G) (Y : Nat → ClassId) (oM : Nat → Nat) (sz : Nat) (mM : GS) (tk : Int64) (i1 : Int32) (i2 : Int32) (i3 : Int32) (i4 : Int32) (rr : Int32) (mMz : GS) (hM : MX5_mends mM i1 i2 i3 i4 = some (rr, mMz)) : Met l yX5_mends wsX5_mends rmX5_mends (pcW [.ref (oM 0), .int i1, .int i2, .int i3, .int i4] sz D Y (cMod Y oM mM tk)) (qiW rr D (cMod Y oM mMz tk) (va_A (cMod Y oM mM tk) sz)) 0 0 (va_A (cMod Y oM mM tk) sz) := by
  refine Met.ofW (cc := cX5_mends) (maxL := 12) (ret := (some .int)) (by decide) rfl ?_
  intro p e s m args below meth c s₁ B hml hv
  obtain ⟨rfl, hsz, hP, hK, hD0⟩ := hv
  have hx := B.exec
  have hb := B.bytes
  have hr := B.returns
  have hts := atoms_spec (ws := wsX5_mends) B.pre
  have hown : s.vm.findClass RX5 = some m.cls := findClass_of_methodNamed B.named
  have hlocks := B.notSynchronized
  subst hsz
  have hD := hD0.self (sz := s.heap.size)
  generalize hAe : va_A (cMod Y oM mM tk) s.heap.size = A at hD ⊢
  have hA : ∀ q : Nat, s.heap.size ≤ q → A q := fun q h => by rw [← hAe]; exact Or.inr h
  have hS : va_S A s.heap s.heap [] := va_S.rf
  have hi5 : ∀ w ∈ wsX50, w ∈ wsX5_mends := fun w h => List.mem_cons_of_mem _ (List.mem_append_right _ h)
  have hl := lv_entry ([.ref (oM 0), .int i1, .int i2, .int i3, .int i4]) (n := 12) (Nat.le_of_ble_eq_true rfl)
  rw [lg_entry_eq]
  generalize (lg_sl ([.ref (oM 0), .int i1, .int i2, .int i3, .int i4]) ++ List.replicate (12 - (lg_sl ([.ref (oM 0), .int i1, .int i2, .int i3, .int i4])).length) Slot.unset).toArray = ls at hl ⊢
  have hl : lv_has ls 12 [(0, .ref (oM 0)), (1, .int i1), (2, .int i2), (3, .int i3), (4, .int i4)] := hl
  obtain ⟨QQ, hQQ⟩ : ∃ Q : State → Prop, Q = MQ below (qiW rr D (cMod Y oM mMz tk) A) ([.ref (oM 0), .int i1, .int i2, .int i3, .int i4] : List Value).toArray s 0 0 A := ⟨_, rfl⟩
  rw [← hQQ]
  unfold MX5_mends at hM
  suffices hI : ∀ (H : Heap) (locs : List Loc), va_P D vwCl (cMod Y oM mM tk) H → va_S A s.heap H locs → W p l e (headSpec wsX5_mends rmX5_mends).room s m ([.ref (oM 0), .int i1, .int i2, .int i3, .int i4] : List Value).toArray below meth c H locs 0 0 QQ (F0 m 0 ls []) from hI _ _ hP hS
  clear hP hS
  intro H locs hP hS
  refine lv_aload_n hx hb dX5_mends_0 rfl (lv_at hl 0 rfl) ?_
  refine lv_iload_n hx hb dX5_mends_1 rfl (lv_at hl 1 rfl) ?_
  refine lv_iload_n hx hb dX5_mends_2 rfl (lv_at hl 2 rfl) ?_
  refine lv_iload_n hx hb dX5_mends_3 rfl (lv_at hl 3 rfl) ?_
  refine lv_iconst (v := (0 : Int32)) hx hb dX5_mends_4 (by decide) ?_
  refine lv_bipush (v := (99 : Int32)) hx hb dX5_mends_5 (by decide) ?_
  obtain ⟨r1, hc2, hM⟩ := bnd1_at hM
  refine cm_i (w2 := (cMod Y oM mM tk)) (va_runS (As := [.int i3, .int (0 : Int32), .int (99 : Int32)]) (rest := [.int i2, .int i1, .ref (oM 0)]) ⟨hx, hb, hml, hown, hts⟩ (ctX5_in l D Y H.size i3 (0 : Int32) (99 : Int32) r1 hc2) (cwS 3 hts gX5_mends_X5_in rfl rfl rfl (by decide +kernel) ⟨Nat.le_of_ble_eq_true rfl, Nat.le_of_ble_eq_true rfl⟩) (pcW_S hK hP (hD.same rfl) [] rfl (pc_map pc_nil)) rfl rfl hl.1 rfl (lv_room (Nat.le_of_ble_eq_true rfl)) dX5_mends_7 ⟨Nat.zero_le _, Nat.zero_le _⟩) hP (hD.same rfl) hS hA [] (pc_map pc_nil) (up_old rfl rfl (up_old rfl rfl (up_old rfl rfl (up_old rfl rfl (up_old rfl rfl (up_old rfl rfl (up_old rfl rfl (up_old rfl rfl (up_old rfl rfl (up_old rfl rfl (up_old rfl rfl (up_old rfl rfl (up_old rfl rfl (up_old rfl rfl (up_old rfl rfl (up_old rfl rfl (up_old rfl rfl (up_old rfl rfl (up_old rfl rfl up_nil))))))))))))))))))) (fun H locs hP hS => ?_)
  refine jn1_at (fun (x3 : Int32) => ∀ (H : Heap) (locs : List Loc) (ls : Array Slot), va_P D vwCl (cMod Y oM mM tk) H → va_S A s.heap H locs → lv_has ls 12 [(0, .ref (oM 0)), (1, .int i1), (2, .int i2), (3, .int i3), (4, .int i4)] → W p l e (headSpec wsX5_mends rmX5_mends).room s m ([.ref (oM 0), .int i1, .int i2, .int i3, .int i4] : List Value).toArray below meth c H locs 0 0 QQ (F0 m 28 ls [.int x3, .int i2, .int i1, .ref (oM 0)])) hM (fun x3 hM H locs ls hP hS hl => ?_) (fun k4 hJ4 hM => ?_)
  · obtain ⟨r5, hc6, hM⟩ := bnd1_at hM
    refine co_i (va_runV (As := [.int i1, .int i2, .int x3]) (rest := []) ⟨hx, hb, hml, hown, hts⟩ (ctX5_whyNot l D Y oM H.size mM tk i1 i2 x3 r5 hc6) (cwV 3 hts gX5_mends_X5_whyNot rfl rfl rfl (by decide +kernel) ⟨Nat.le_of_ble_eq_true rfl, Nat.le_of_ble_eq_true rfl⟩) (pcW_V0 (ci := 5) (q0 := 0) hK hP (hD.same rfl) rfl rfl) rfl rfl hl.1 rfl (lv_room (Nat.le_of_ble_eq_true rfl)) dX5_mends_28 ⟨Nat.zero_le _, Nat.zero_le _⟩) (hD.same rfl) hS hA (fun H locs hP hS => ?_)
    refine lv_istore (lv' := [(5, .int r5), (0, .ref (oM 0)), (1, .int i1), (2, .int i2), (3, .int i3), (4, .int i4)]) hx hb dX5_mends_31 hl (by decide) rfl (fun ls hl => ?_)
    refine lv_iload hx hb dX5_mends_33 (lv_at hl 0 rfl) ?_
    refine lv_if_eq (tgt := 41) hx hb dX5_mends_35 (by decide) (fun c7 => ?_) (fun c7 => ?_)
    · replace hM := if_at_pos hM c7
      refine lv_iconst (v := (0 : Int32)) hx hb dX5_mends_41 (by decide) ?_
      refine lv_istore (lv' := [(6, .int (0 : Int32)), (5, .int r5), (0, .ref (oM 0)), (1, .int i1), (2, .int i2), (3, .int i3), (4, .int i4)]) hx hb dX5_mends_42 hl (by decide) rfl (fun ls hl => ?_)
      refine lv_iconst (v := (0 : Int32)) hx hb dX5_mends_44 (by decide) ?_
      refine lv_istore (lv' := [(7, .int (0 : Int32)), (6, .int (0 : Int32)), (5, .int r5), (0, .ref (oM 0)), (1, .int i1), (2, .int i2), (3, .int i3), (4, .int i4)]) hx hb dX5_mends_45 hl (by decide) rfl (fun ls hl => ?_)
      refine jn1_at (fun (x8 : Int32) => ∀ (H : Heap) (locs : List Loc) (ls : Array Slot), va_P D vwCl (cMod Y oM mM tk) H → va_S A s.heap H locs → lv_has ls 12 [(0, .ref (oM 0)), (1, .int i1), (2, .int i2), (3, .int i3), (4, .int i4), (6, .int x8)] → W p l e (headSpec wsX5_mends rmX5_mends).room s m ([.ref (oM 0), .int i1, .int i2, .int i3, .int i4] : List Value).toArray below meth c H locs 0 0 QQ (F0 m 86 ls [])) hM (fun x8 hM H locs ls hP hS hl => ?_) (fun k9 hJ9 hM => ?_)
      · refine lv_iconst (v := (-1 : Int32)) hx hb dX5_mends_86 (by decide) ?_
        refine lv_istore (lv' := [(7, .int (-1 : Int32)), (0, .ref (oM 0)), (1, .int i1), (2, .int i2), (3, .int i3), (4, .int i4), (6, .int x8)]) hx hb dX5_mends_87 hl (by decide) rfl (fun ls hl => ?_)
        refine lv_iconst (v := (0 : Int32)) hx hb dX5_mends_89 (by decide) ?_
        refine lv_istore (lv' := [(8, .int (0 : Int32)), (7, .int (-1 : Int32)), (0, .ref (oM 0)), (1, .int i1), (2, .int i2), (3, .int i3), (4, .int i4), (6, .int x8)]) hx hb dX5_mends_90 hl (by decide) rfl (fun ls hl => ?_)
        refine lv_iconst (v := (0 : Int32)) hx hb dX5_mends_92 (by decide) ?_
        refine lv_istore (lv' := [(9, .int (0 : Int32)), (8, .int (0 : Int32)), (7, .int (-1 : Int32)), (0, .ref (oM 0)), (1, .int i1), (2, .int i2), (3, .int i3), (4, .int i4), (6, .int x8)]) hx hb dX5_mends_93 hl (by decide) rfl (fun ls hl => ?_)
        refine jn3_at (fun (x10 : Int32) (x11 : Int32) (mM_12 : GS) => ∀ (H : Heap) (locs : List Loc) (ls : Array Slot), va_P D vwCl (cMod Y oM mM_12 tk) H → va_S A s.heap H locs → lv_has ls 12 [(4, .int i4), (7, .int x10), (8, .int x11)] → W p l e (headSpec wsX5_mends rmX5_mends).room s m ([.ref (oM 0), .int i1, .int i2, .int i3, .int i4] : List Value).toArray below meth c H locs 0 0 QQ (F0 m 228 ls [])) hM (fun x10 x11 mM_12 hM H locs ls hP hS hl => ?_) (fun k13 hJ13 hM => ?_)
        · refine lv_iload hx hb dX5_mends_228 (lv_at hl 1 rfl) ?_
          refine lv_iconst (v := (-1 : Int32)) hx hb dX5_mends_230 (by decide) ?_
          refine jn1_at (fun (x14 : Int32) => ∀ (H : Heap) (locs : List Loc) (ls : Array Slot), va_P D vwCl (cMod Y oM mM_12 tk) H → va_S A s.heap H locs → lv_has ls 12 [] → W p l e (headSpec wsX5_mends rmX5_mends).room s m ([.ref (oM 0), .int i1, .int i2, .int i3, .int i4] : List Value).toArray below meth c H locs 0 0 QQ (F0 m 247 ls [.int x14])) hM (fun x14 hM H locs ls hP hS hl => ?_) (fun k15 hJ15 hM => ?_)
          · cases hM
            rw [hQQ]
            exact W.iret hx hb hr (fun t ht hW => ⟨⟨_, (), rfl, rfl, by show va_P D vwCl _ t.heap; rw [ht]; exact hP⟩, hS.F ht⟩) hS.2.2 dX5_mends_247
          · refine jn0_at (∀ (H : Heap) (locs : List Loc) (ls : Array Slot), va_P D vwCl (cMod Y oM mM_12 tk) H → va_S A s.heap H locs → lv_has ls 12 [(7, .int x10)] → W p l e (headSpec wsX5_mends rmX5_mends).room s m ([.ref (oM 0), .int i1, .int i2, .int i3, .int i4] : List Value).toArray below meth c H locs 0 0 QQ (F0 m 240 ls [])) hM (fun  hM H locs ls hP hS hl => ?_) (fun k16 hJ16 hM => ?_)
            · refine lv_iload hx hb dX5_mends_240 (lv_at hl 0 rfl) ?_
              refine lv_goto (tgt := 247) hx hb dX5_mends_242 (by decide) ?_
              exact hJ15 x10 hM H locs ls hP hS (lv_sub hl [] rfl)
            · refine lv_icmp_eq (tgt := 240) hx hb dX5_mends_231 (by decide) (fun c17 => ?_) (fun c17 => ?_)
              · replace hM := if_at_pos hM c17
                exact hJ16 hM H locs ls hP hS (lv_sub hl [1] rfl)
              · replace hM := if_at_neg hM c17
                refine lv_iload hx hb dX5_mends_234 (lv_at hl 0 rfl) ?_
                refine lv_iconst (v := (1 : Int32)) hx hb dX5_mends_236 (by decide) ?_
                refine lv_icmp_ne (tgt := 245) hx hb dX5_mends_237 (by decide) (fun c18 => ?_) (fun c18 => ?_)
                · replace hM := if_at_neg hM c18
                  refine lv_iload hx hb dX5_mends_245 (lv_at hl 2 rfl) ?_
                  exact hJ15 x11 hM H locs ls hP hS (lv_sub hl [] rfl)
                · replace hM := if_at_pos hM c18
                  exact hJ16 hM H locs ls hP hS (lv_sub hl [1] rfl)
        · refine lq4_at (fun (x19 : Int32) (x20 : Int32) (x21 : Int32) (mM_22 : GS) => ∀ (H : Heap) (locs : List Loc) (ls : Array Slot), va_P D vwCl (cMod Y oM mM_22 tk) H → va_S A s.heap H locs → lv_has ls 12 [(0, .ref (oM 0)), (1, .int i1), (2, .int i2), (3, .int i3), (4, .int i4), (6, .int x8), (7, .int x19), (8, .int x20), (9, .int x21)] → W p l e (headSpec wsX5_mends rmX5_mends).room s m ([.ref (oM 0), .int i1, .int i2, .int i3, .int i4] : List Value).toArray below meth c H locs 0 0 QQ (F0 m 95 ls [])) (fun rec23 x19 x20 x21 mM_22 ih23 hM H locs ls hP hS hl => ?_) FU (-1 : Int32) (0 : Int32) (0 : Int32) mM hM H locs ls hP hS (lv_sub hl [3, 4, 5, 6, 7, 8, 2, 1, 0] rfl)
          unfold BX5_mends_95 at hM
          refine lv_iload hx hb dX5_mends_95 (lv_at hl 8 rfl) ?_
          refine lv_iconst (v := (1 : Int32)) hx hb dX5_mends_97 (by decide) ?_
          refine lv_aload_n hx hb dX5_mends_98 rfl (lv_at hl 0 rfl) ?_
          refine va_get hx hb hts hi5 hown hK hP 0 rfl rfl 2 (by decide) (hts (.fieldLink RX5 78 "NightPlotsModel" "houses" "I") (List.mem_of_getElem? (i := 1) rfl)) (fun _ h9 => h9) rfl dX5_mends_99 ?_
          refine lv_ishl hx hb dX5_mends_102 ?_
          refine lv_icmp_ge (tgt := 228) hx hb dX5_mends_103 (by decide) (fun c24 => ?_) (fun c24 => ?_)
          · replace hM := if_at_pos hM c24
            exact hJ13 x19 x20 mM_22 hM H locs ls hP hS (lv_sub hl [4, 6, 7] rfl)
          · replace hM := if_at_neg hM c24
            refine lv_iconst (v := (0 : Int32)) hx hb dX5_mends_106 (by decide) ?_
            refine lv_istore (lv' := [(10, .int (0 : Int32)), (0, .ref (oM 0)), (1, .int i1), (2, .int i2), (3, .int i3), (4, .int i4), (6, .int x8), (7, .int x19), (8, .int x20), (9, .int x21)]) hx hb dX5_mends_107 hl (by decide) rfl (fun ls hl => ?_)
            refine lv_iconst (v := (0 : Int32)) hx hb dX5_mends_109 (by decide) ?_
            refine lv_istore (lv' := [(11, .int (0 : Int32)), (10, .int (0 : Int32)), (0, .ref (oM 0)), (1, .int i1), (2, .int i2), (3, .int i3), (4, .int i4), (6, .int x8), (7, .int x19), (8, .int x20), (9, .int x21)]) hx hb dX5_mends_110 hl (by decide) rfl (fun ls hl => ?_)
            refine jn1_at (fun (x25 : Int32) => ∀ (H : Heap) (locs : List Loc) (ls : Array Slot), va_P D vwCl (cMod Y oM mM_22 tk) H → va_S A s.heap H locs → lv_has ls 12 [(0, .ref (oM 0)), (1, .int i1), (2, .int i2), (3, .int i3), (4, .int i4), (6, .int x8), (7, .int x19), (8, .int x20), (9, .int x21), (10, .int x25)] → W p l e (headSpec wsX5_mends rmX5_mends).room s m ([.ref (oM 0), .int i1, .int i2, .int i3, .int i4] : List Value).toArray below meth c H locs 0 0 QQ (F0 m 150 ls [])) hM (fun x25 hM H locs ls hP hS hl => ?_) (fun k26 hJ26 hM => ?_)
            · refine lv_iload hx hb dX5_mends_150 (lv_at hl 8 rfl) ?_
              refine lv_iload hx hb dX5_mends_152 (lv_at hl 5 rfl) ?_
              refine lv_iconst (v := (-1 : Int32)) hx hb dX5_mends_154 (by decide) ?_
              refine lv_ixor hx hb dX5_mends_155 ?_
              refine lv_iand hx hb dX5_mends_156 ?_
              refine jn3_at (fun (x27 : Int32) (x28 : Int32) (mM_29 : GS) => ∀ (H : Heap) (locs : List Loc) (ls : Array Slot), va_P D vwCl (cMod Y oM mM_29 tk) H → va_S A s.heap H locs → lv_has ls 12 [(0, .ref (oM 0)), (1, .int i1), (2, .int i2), (3, .int i3), (4, .int i4), (6, .int x8), (7, .int x27), (8, .int x28), (9, .int x21)] → W p l e (headSpec wsX5_mends rmX5_mends).room s m ([.ref (oM 0), .int i1, .int i2, .int i3, .int i4] : List Value).toArray below meth c H locs 0 0 QQ (F0 m 222 ls [])) hM (fun x27 x28 mM_29 hM H locs ls hP hS hl => ?_) (fun k30 hJ30 hM => ?_)
              · obtain ⟨x31, ex31⟩ : ∃ z : Int32, z = (x21 + 1) := ⟨_, rfl⟩
                replace hM := nm_at hM ex31
                refine lv_iinc (v := x31) (lv' := [(9, .int x31), (0, .ref (oM 0)), (1, .int i1), (2, .int i2), (3, .int i3), (4, .int i4), (6, .int x8), (7, .int x27), (8, .int x28)]) hx hb dX5_mends_222 hl (k := 8) rfl (by rw [ex31]; rfl) (by decide) rfl (fun ls hl => ?_)
                refine lv_goto (tgt := 95) hx hb dX5_mends_225 (by decide) ?_
                exact ih23 x27 x28 x31 mM_29 hM H locs ls hP hS (lv_sub hl [1, 2, 3, 4, 5, 6, 7, 8, 0] rfl)
              · refine lv_if_ne (tgt := 222) hx hb dX5_mends_157 (by decide) (fun c32 => ?_) (fun c32 => ?_)
                · replace hM := if_at_neg hM c32
                  exact hJ30 x19 x20 mM_22 hM H locs ls hP hS (lv_sub hl [0, 1, 2, 3, 4, 5, 6, 7, 8] rfl)
                · replace hM := if_at_pos hM c32
                  refine lv_iload hx hb dX5_mends_160 (lv_at hl 6 rfl) ?_
                  refine lv_iconst (v := (-1 : Int32)) hx hb dX5_mends_162 (by decide) ?_
                  refine jn0_at (∀ (H : Heap) (locs : List Loc) (ls : Array Slot), va_P D vwCl (cMod Y oM mM_22 tk) H → va_S A s.heap H locs → lv_has ls 12 [(0, .ref (oM 0)), (1, .int i1), (2, .int i2), (3, .int i3), (4, .int i4), (6, .int x8), (7, .int x19), (8, .int x20), (9, .int x21), (10, .int x25)] → W p l e (headSpec wsX5_mends rmX5_mends).room s m ([.ref (oM 0), .int i1, .int i2, .int i3, .int i4] : List Value).toArray below meth c H locs 0 0 QQ (F0 m 173 ls [])) hM (fun  hM H locs ls hP hS hl => ?_) (fun k33 hJ33 hM => ?_)
                  · refine lv_aload_n hx hb dX5_mends_173 rfl (lv_at hl 0 rfl) ?_
                    refine lv_iload hx hb dX5_mends_174 (lv_at hl 8 rfl) ?_
                    refine lv_iconst (v := (0 : Int32)) hx hb dX5_mends_176 (by decide) ?_
                    obtain ⟨mM_34, hc35, hM⟩ := bnd1_at hM
                    refine co_v (va_runV (As := [.int x21, .int (0 : Int32)]) (rest := []) ⟨hx, hb, hml, hown, hts⟩ (ctX5_mend l D Y oM H.size mM_22 tk x21 (0 : Int32) mM_34 hc35) (cwV 2 hts gX5_mends_X5_mend rfl rfl rfl (by decide +kernel) ⟨Nat.le_of_ble_eq_true rfl, Nat.le_of_ble_eq_true rfl⟩) (pcW_V0 (ci := 5) (q0 := 0) hK hP (hD.same rfl) rfl rfl) rfl rfl hl.1 rfl (lv_room (Nat.le_of_ble_eq_true rfl)) dX5_mends_177 ⟨Nat.zero_le _, Nat.zero_le _⟩) (hD.same rfl) hS hA (fun H locs hP hS => ?_)
                    refine lv_aload_n hx hb dX5_mends_180 rfl (lv_at hl 0 rfl) ?_
                    refine lv_iload_n hx hb dX5_mends_181 rfl (lv_at hl 1 rfl) ?_
                    refine lv_iload_n hx hb dX5_mends_182 rfl (lv_at hl 2 rfl) ?_
                    refine lv_iload_n hx hb dX5_mends_183 rfl (lv_at hl 3 rfl) ?_
                    obtain ⟨r36, mM_37, hc38, hM⟩ := bnd2_at hM
                    refine co_i (va_runV (As := [.int i1, .int i2, .int i3]) (rest := []) ⟨hx, hb, hml, hown, hts⟩ (ctX5_doMeet l D Y oM H.size mM_34 tk i1 i2 i3 r36 mM_37 hc38) (cwV 3 hts gX5_mends_X5_doMeet rfl rfl rfl (by decide +kernel) ⟨Nat.le_of_ble_eq_true rfl, Nat.le_of_ble_eq_true rfl⟩) (pcW_V0 (ci := 5) (q0 := 0) hK hP (hD.same rfl) rfl rfl) rfl rfl hl.1 rfl (lv_room (Nat.le_of_ble_eq_true rfl)) dX5_mends_184 ⟨Nat.zero_le _, Nat.zero_le _⟩) (hD.same rfl) hS hA (fun H locs hP hS => ?_)
                    refine jn1_at (fun (x39 : Int32) => ∀ (H : Heap) (locs : List Loc) (ls : Array Slot), va_P D vwCl (cMod Y oM mM_37 tk) H → va_S A s.heap H locs → lv_has ls 12 [(0, .ref (oM 0)), (1, .int i1), (2, .int i2), (3, .int i3), (4, .int i4), (6, .int x8), (8, .int x20), (9, .int x21), (10, .int x25)] → W p l e (headSpec wsX5_mends rmX5_mends).room s m ([.ref (oM 0), .int i1, .int i2, .int i3, .int i4] : List Value).toArray below meth c H locs 0 0 QQ (F0 m 197 ls [.int x39])) hM (fun x39 hM H locs ls hP hS hl => ?_) (fun k40 hJ40 hM => ?_)
                    · refine lv_istore (lv' := [(7, .int x39), (0, .ref (oM 0)), (1, .int i1), (2, .int i2), (3, .int i3), (4, .int i4), (6, .int x8), (8, .int x20), (9, .int x21), (10, .int x25)]) hx hb dX5_mends_197 hl (by decide) rfl (fun ls hl => ?_)
                      refine lv_iload hx hb dX5_mends_199 (lv_at hl 0 rfl) ?_
                      refine lv_iload hx hb dX5_mends_201 (lv_at hl 8 rfl) ?_
                      refine jn1_at (fun (x41 : Int32) => ∀ (H : Heap) (locs : List Loc) (ls : Array Slot), va_P D vwCl (cMod Y oM mM_37 tk) H → va_S A s.heap H locs → lv_has ls 12 [(0, .ref (oM 0)), (1, .int i1), (2, .int i2), (3, .int i3), (4, .int i4), (6, .int x8), (7, .int x39), (9, .int x21)] → W p l e (headSpec wsX5_mends rmX5_mends).room s m ([.ref (oM 0), .int i1, .int i2, .int i3, .int i4] : List Value).toArray below meth c H locs 0 0 QQ (F0 m 213 ls [.int x41])) hM (fun x41 hM H locs ls hP hS hl => ?_) (fun k42 hJ42 hM => ?_)
                      · refine lv_istore (lv' := [(8, .int x41), (0, .ref (oM 0)), (1, .int i1), (2, .int i2), (3, .int i3), (4, .int i4), (6, .int x8), (7, .int x39), (9, .int x21)]) hx hb dX5_mends_213 hl (by decide) rfl (fun ls hl => ?_)
                        refine lv_aload_n hx hb dX5_mends_215 rfl (lv_at hl 1 rfl) ?_
                        refine lv_iload hx hb dX5_mends_216 (lv_at hl 8 rfl) ?_
                        refine lv_iconst (v := (2 : Int32)) hx hb dX5_mends_218 (by decide) ?_
                        obtain ⟨mM_43, hc44, hM⟩ := bnd1_at hM
                        refine co_v (va_runV (As := [.int x21, .int (2 : Int32)]) (rest := []) ⟨hx, hb, hml, hown, hts⟩ (ctX5_mend l D Y oM H.size mM_37 tk x21 (2 : Int32) mM_43 hc44) (cwV 2 hts gX5_mends_X5_mend rfl rfl rfl (by decide +kernel) ⟨Nat.le_of_ble_eq_true rfl, Nat.le_of_ble_eq_true rfl⟩) (pcW_V0 (ci := 5) (q0 := 0) hK hP (hD.same rfl) rfl rfl) rfl rfl hl.1 rfl (lv_room (Nat.le_of_ble_eq_true rfl)) dX5_mends_219 ⟨Nat.zero_le _, Nat.zero_le _⟩) (hD.same rfl) hS hA (fun H locs hP hS => ?_)
                        exact hJ30 x39 x41 mM_43 hM H locs ls hP hS (lv_sub hl [1, 2, 3, 4, 5, 6, 7, 0, 8] rfl)
                      · refine lv_icmp_ne (tgt := 211) hx hb dX5_mends_203 (by decide) (fun c45 => ?_) (fun c45 => ?_)
                        · replace hM := if_at_neg hM c45
                          refine lv_iload hx hb dX5_mends_211 (lv_at hl 7 rfl) ?_
                          exact hJ42 x20 hM H locs ls hP hS (lv_sub hl [1, 2, 3, 4, 5, 6, 0, 8] rfl)
                        · replace hM := if_at_pos hM c45
                          refine lv_iload hx hb dX5_mends_206 (lv_at hl 9 rfl) ?_
                          refine lv_goto (tgt := 213) hx hb dX5_mends_208 (by decide) ?_
                          exact hJ42 x25 hM H locs ls hP hS (lv_sub hl [1, 2, 3, 4, 5, 6, 0, 8] rfl)
                    · refine lv_if_eq (tgt := 195) hx hb dX5_mends_187 (by decide) (fun c46 => ?_) (fun c46 => ?_)
                      · replace hM := if_at_pos hM c46
                        refine lv_iload hx hb dX5_mends_195 (lv_at hl 6 rfl) ?_
                        exact hJ40 x19 hM H locs ls hP hS (lv_sub hl [0, 1, 2, 3, 4, 5, 7, 8, 9] rfl)
                      · replace hM := if_at_neg hM c46
                        refine lv_iload hx hb dX5_mends_190 (lv_at hl 8 rfl) ?_
                        refine lv_goto (tgt := 197) hx hb dX5_mends_192 (by decide) ?_
                        exact hJ40 x21 hM H locs ls hP hS (lv_sub hl [0, 1, 2, 3, 4, 5, 7, 8, 9] rfl)
                  · refine lv_icmp_eq (tgt := 173) hx hb dX5_mends_163 (by decide) (fun c47 => ?_) (fun c47 => ?_)
                    · replace hM := if_at_pos hM c47
                      exact hJ33 hM H locs ls hP hS (lv_sub hl [0, 1, 2, 3, 4, 5, 6, 7, 8, 9] rfl)
                    · replace hM := if_at_neg hM c47
                      refine lv_iload hx hb dX5_mends_166 (lv_at hl 9 rfl) ?_
                      refine lv_iload hx hb dX5_mends_168 (lv_at hl 7 rfl) ?_
                      refine lv_icmp_ge (tgt := 222) hx hb dX5_mends_170 (by decide) (fun c48 => ?_) (fun c48 => ?_)
                      · replace hM := if_at_pos hM c48
                        exact hJ30 x19 x20 mM_22 hM H locs ls hP hS (lv_sub hl [0, 1, 2, 3, 4, 5, 6, 7, 8] rfl)
                      · replace hM := if_at_neg hM c48
                        exact hJ33 hM H locs ls hP hS (lv_sub hl [0, 1, 2, 3, 4, 5, 6, 7, 8, 9] rfl)
            · refine lq2_at (fun (x49 : Int32) (x50 : Int32) => ∀ (H : Heap) (locs : List Loc) (ls : Array Slot), va_P D vwCl (cMod Y oM mM_22 tk) H → va_S A s.heap H locs → lv_has ls 12 [(0, .ref (oM 0)), (1, .int i1), (2, .int i2), (3, .int i3), (4, .int i4), (6, .int x8), (7, .int x19), (8, .int x20), (9, .int x21), (10, .int x49), (11, .int x50)] → W p l e (headSpec wsX5_mends rmX5_mends).room s m ([.ref (oM 0), .int i1, .int i2, .int i3, .int i4] : List Value).toArray below meth c H locs 0 0 QQ (F0 m 112 ls [])) (fun rec51 x49 x50 ih51 hM H locs ls hP hS hl => ?_) FU (0 : Int32) (0 : Int32) hM H locs ls hP hS (lv_sub hl [2, 3, 4, 5, 6, 7, 8, 9, 10, 1, 0] rfl)
              unfold BX5_mends_112 at hM
              refine lv_iload hx hb dX5_mends_112 (lv_at hl 10 rfl) ?_
              refine lv_aload_n hx hb dX5_mends_114 rfl (lv_at hl 0 rfl) ?_
              refine va_get hx hb hts hi5 hown hK hP 0 rfl rfl 2 (by decide) (hts (.fieldLink RX5 78 "NightPlotsModel" "houses" "I") (List.mem_of_getElem? (i := 1) rfl)) (fun _ h9 => h9) rfl dX5_mends_115 ?_
              refine lv_icmp_ge (tgt := 150) hx hb dX5_mends_118 (by decide) (fun c52 => ?_) (fun c52 => ?_)
              · replace hM := if_at_pos hM c52
                exact hJ26 x49 hM H locs ls hP hS (lv_sub hl [0, 1, 2, 3, 4, 5, 6, 7, 8, 9] rfl)
              · replace hM := if_at_neg hM c52
                refine lv_iload hx hb dX5_mends_121 (lv_at hl 9 rfl) ?_
                refine lv_iload hx hb dX5_mends_123 (lv_at hl 8 rfl) ?_
                refine lv_iload hx hb dX5_mends_125 (lv_at hl 10 rfl) ?_
                obtain ⟨r53, hc54, hM⟩ := bnd1_at hM
                refine cm_i (w2 := (cMod Y oM mM_22 tk)) (va_runS (As := [.int x21, .int x50]) (rest := [.int x49]) ⟨hx, hb, hml, hown, hts⟩ (ctX5_has l D Y H.size x21 x50 r53 hc54) (cwS 2 hts gX5_mends_X5_has rfl rfl rfl (by decide +kernel) ⟨Nat.le_of_ble_eq_true rfl, Nat.le_of_ble_eq_true rfl⟩) (pcW_S hK hP (hD.same rfl) [] rfl (pc_map pc_nil)) rfl rfl hl.1 rfl (lv_room (Nat.le_of_ble_eq_true rfl)) dX5_mends_127 ⟨Nat.zero_le _, Nat.zero_le _⟩) hP (hD.same rfl) hS hA [] (pc_map pc_nil) (up_old rfl rfl (up_old rfl rfl (up_old rfl rfl (up_old rfl rfl (up_old rfl rfl (up_old rfl rfl (up_old rfl rfl (up_old rfl rfl (up_old rfl rfl (up_old rfl rfl (up_old rfl rfl (up_old rfl rfl (up_old rfl rfl (up_old rfl rfl (up_old rfl rfl (up_old rfl rfl (up_old rfl rfl (up_old rfl rfl (up_old rfl rfl up_nil))))))))))))))))))) (fun H locs hP hS => ?_)
                refine jn1_at (fun (x55 : Int32) => ∀ (H : Heap) (locs : List Loc) (ls : Array Slot), va_P D vwCl (cMod Y oM mM_22 tk) H → va_S A s.heap H locs → lv_has ls 12 [(0, .ref (oM 0)), (1, .int i1), (2, .int i2), (3, .int i3), (4, .int i4), (6, .int x8), (7, .int x19), (8, .int x20), (9, .int x21), (11, .int x50)] → W p l e (headSpec wsX5_mends rmX5_mends).room s m ([.ref (oM 0), .int i1, .int i2, .int i3, .int i4] : List Value).toArray below meth c H locs 0 0 QQ (F0 m 141 ls [.int x55, .int x49])) hM (fun x55 hM H locs ls hP hS hl => ?_) (fun k56 hJ56 hM => ?_)
                · refine lv_iadd hx hb dX5_mends_141 ?_
                  refine lv_topi (fun x57 ex57 => ?_)
                  replace hM := nm_at hM ex57
                  refine lv_istore (lv' := [(10, .int x57), (0, .ref (oM 0)), (1, .int i1), (2, .int i2), (3, .int i3), (4, .int i4), (6, .int x8), (7, .int x19), (8, .int x20), (9, .int x21), (11, .int x50)]) hx hb dX5_mends_142 hl (by decide) rfl (fun ls hl => ?_)
                  obtain ⟨x58, ex58⟩ : ∃ z : Int32, z = (x50 + 1) := ⟨_, rfl⟩
                  replace hM := nm_at hM ex58
                  refine lv_iinc (v := x58) (lv' := [(11, .int x58), (10, .int x57), (0, .ref (oM 0)), (1, .int i1), (2, .int i2), (3, .int i3), (4, .int i4), (6, .int x8), (7, .int x19), (8, .int x20), (9, .int x21)]) hx hb dX5_mends_144 hl (k := 10) rfl (by rw [ex58]; rfl) (by decide) rfl (fun ls hl => ?_)
                  refine lv_goto (tgt := 112) hx hb dX5_mends_147 (by decide) ?_
                  exact ih51 x57 x58 hM H locs ls hP hS (lv_sub hl [2, 3, 4, 5, 6, 7, 8, 9, 10, 1, 0] rfl)
                · refine lv_if_eq (tgt := 140) hx hb dX5_mends_130 (by decide) (fun c59 => ?_) (fun c59 => ?_)
                  · replace hM := if_at_pos hM c59
                    refine lv_iconst (v := (0 : Int32)) hx hb dX5_mends_140 (by decide) ?_
                    exact hJ56 (0 : Int32) hM H locs ls hP hS (lv_sub hl [0, 1, 2, 3, 4, 5, 6, 7, 8, 10] rfl)
                  · replace hM := if_at_neg hM c59
                    refine lv_iconst (v := (1 : Int32)) hx hb dX5_mends_133 (by decide) ?_
                    refine lv_iload hx hb dX5_mends_134 (lv_at hl 10 rfl) ?_
                    refine lv_iadd hx hb dX5_mends_136 ?_
                    refine lv_goto (tgt := 141) hx hb dX5_mends_137 (by decide) ?_
                    exact hJ56 ((1 : Int32) + x50) hM H locs ls hP hS (lv_sub hl [0, 1, 2, 3, 4, 5, 6, 7, 8, 10] rfl)
      · refine lq2_at (fun (x60 : Int32) (x61 : Int32) => ∀ (H : Heap) (locs : List Loc) (ls : Array Slot), va_P D vwCl (cMod Y oM mM tk) H → va_S A s.heap H locs → lv_has ls 12 [(0, .ref (oM 0)), (1, .int i1), (2, .int i2), (3, .int i3), (4, .int i4), (6, .int x60), (7, .int x61)] → W p l e (headSpec wsX5_mends rmX5_mends).room s m ([.ref (oM 0), .int i1, .int i2, .int i3, .int i4] : List Value).toArray below meth c H locs 0 0 QQ (F0 m 47 ls [])) (fun rec62 x60 x61 ih62 hM H locs ls hP hS hl => ?_) FU (0 : Int32) (0 : Int32) hM H locs ls hP hS (lv_sub hl [3, 4, 5, 6, 7, 1, 0] rfl)
        unfold BX5_mends_47 at hM
        refine lv_iload hx hb dX5_mends_47 (lv_at hl 6 rfl) ?_
        refine lv_aload_n hx hb dX5_mends_49 rfl (lv_at hl 0 rfl) ?_
        refine va_get hx hb hts hi5 hown hK hP 0 rfl rfl 2 (by decide) (hts (.fieldLink RX5 78 "NightPlotsModel" "houses" "I") (List.mem_of_getElem? (i := 1) rfl)) (fun _ h9 => h9) rfl dX5_mends_50 ?_
        refine lv_icmp_ge (tgt := 86) hx hb dX5_mends_53 (by decide) (fun c63 => ?_) (fun c63 => ?_)
        · replace hM := if_at_pos hM c63
          exact hJ9 x60 hM H locs ls hP hS (lv_sub hl [0, 1, 2, 3, 4, 5] rfl)
        · replace hM := if_at_neg hM c63
          refine lv_iload hx hb dX5_mends_56 (lv_at hl 5 rfl) ?_
          refine lv_aload_n hx hb dX5_mends_58 rfl (lv_at hl 0 rfl) ?_
          refine va_get hx hb hts hi5 hown hK hP 0 rfl rfl 3 (by decide) (hts (.fieldLink RX5 17 "NightPlotsModel" "kind" "[I") (List.mem_of_getElem? (i := 2) rfl)) (fun _ h9 => h9) rfl dX5_mends_59 ?_
          refine lv_iload hx hb dX5_mends_62 (lv_at hl 6 rfl) ?_
          obtain ⟨hi_64, hM⟩ := chkI_at hM
          refine va_iald hx hb hK hP 2 0 rfl rfl hi_64 dX5_mends_64 ?_
          refine lv_iconst (v := (2 : Int32)) hx hb dX5_mends_65 (by decide) ?_
          refine jn1_at (fun (x65 : Int32) => ∀ (H : Heap) (locs : List Loc) (ls : Array Slot), va_P D vwCl (cMod Y oM mM tk) H → va_S A s.heap H locs → lv_has ls 12 [(0, .ref (oM 0)), (1, .int i1), (2, .int i2), (3, .int i3), (4, .int i4), (7, .int x61)] → W p l e (headSpec wsX5_mends rmX5_mends).room s m ([.ref (oM 0), .int i1, .int i2, .int i3, .int i4] : List Value).toArray below meth c H locs 0 0 QQ (F0 m 77 ls [.int x65, .int x60])) hM (fun x65 hM H locs ls hP hS hl => ?_) (fun k66 hJ66 hM => ?_)
          · refine lv_ior hx hb dX5_mends_77 ?_
            refine lv_topi (fun x67 ex67 => ?_)
            replace hM := nm_at hM ex67
            refine lv_istore (lv' := [(6, .int x67), (0, .ref (oM 0)), (1, .int i1), (2, .int i2), (3, .int i3), (4, .int i4), (7, .int x61)]) hx hb dX5_mends_78 hl (by decide) rfl (fun ls hl => ?_)
            obtain ⟨x68, ex68⟩ : ∃ z : Int32, z = (x61 + 1) := ⟨_, rfl⟩
            replace hM := nm_at hM ex68
            refine lv_iinc (v := x68) (lv' := [(7, .int x68), (6, .int x67), (0, .ref (oM 0)), (1, .int i1), (2, .int i2), (3, .int i3), (4, .int i4)]) hx hb dX5_mends_80 hl (k := 6) rfl (by rw [ex68]; rfl) (by decide) rfl (fun ls hl => ?_)
            refine lv_goto (tgt := 47) hx hb dX5_mends_83 (by decide) ?_
            exact ih62 x67 x68 hM H locs ls hP hS (lv_sub hl [2, 3, 4, 5, 6, 1, 0] rfl)
          · refine lv_icmp_ne (tgt := 76) hx hb dX5_mends_66 (by decide) (fun c69 => ?_) (fun c69 => ?_)
            · replace hM := if_at_neg hM c69
              refine lv_iconst (v := (0 : Int32)) hx hb dX5_mends_76 (by decide) ?_
              exact hJ66 (0 : Int32) hM H locs ls hP hS (lv_sub hl [0, 1, 2, 3, 4, 6] rfl)
            · replace hM := if_at_pos hM c69
              refine lv_iconst (v := (1 : Int32)) hx hb dX5_mends_69 (by decide) ?_
              refine lv_iload hx hb dX5_mends_70 (lv_at hl 6 rfl) ?_
              refine lv_ishl hx hb dX5_mends_72 ?_
              refine lv_goto (tgt := 77) hx hb dX5_mends_73 (by decide) ?_
              exact hJ66 ((1 : Int32) <<< (x61 &&& 31)) hM H locs ls hP hS (lv_sub hl [0, 1, 2, 3, 4, 6] rfl)
    · replace hM := if_at_neg hM c7
      refine lv_iload hx hb dX5_mends_38 (lv_at hl 0 rfl) ?_
      cases hM
      rw [hQQ]
      exact W.iret hx hb hr (fun t ht hW => ⟨⟨_, (), rfl, rfl, by show va_P D vwCl _ t.heap; rw [ht]; exact hP⟩, hS.F ht⟩) hS.2.2 dX5_mends_40
  · refine jn0_at (∀ (H : Heap) (locs : List Loc) (ls : Array Slot), va_P D vwCl (cMod Y oM mM tk) H → va_S A s.heap H locs → lv_has ls 12 [(0, .ref (oM 0)), (1, .int i1), (2, .int i2), (3, .int i3), (4, .int i4)] → W p l e (headSpec wsX5_mends rmX5_mends).room s m ([.ref (oM 0), .int i1, .int i2, .int i3, .int i4] : List Value).toArray below meth c H locs 0 0 QQ (F0 m 27 ls [.int i2, .int i1, .ref (oM 0)])) hM (fun  hM H locs ls hP hS hl => ?_) (fun k70 hJ70 hM => ?_)
    · refine lv_iconst (v := (0 : Int32)) hx hb dX5_mends_27 (by decide) ?_
      exact hJ4 (0 : Int32) hM H locs ls hP hS (lv_sub hl [0, 1, 2, 3, 4] rfl)
    · refine lv_if_eq (tgt := 27) hx hb dX5_mends_10 (by decide) (fun c71 => ?_) (fun c71 => ?_)
      · replace hM := if_at_pos hM c71
        exact hJ70 hM H locs ls hP hS (lv_sub hl [0, 1, 2, 3, 4] rfl)
      · replace hM := if_at_neg hM c71
        refine lv_iload hx hb dX5_mends_13 (lv_at hl 4 rfl) ?_
        refine lv_iconst (v := (0 : Int32)) hx hb dX5_mends_15 (by decide) ?_
        refine lv_iconst (v := (1 : Int32)) hx hb dX5_mends_16 (by decide) ?_
        obtain ⟨r72, hc73, hM⟩ := bnd1_at hM
        refine cm_i (w2 := (cMod Y oM mM tk)) (va_runS (As := [.int i4, .int (0 : Int32), .int (1 : Int32)]) (rest := [.int i2, .int i1, .ref (oM 0)]) ⟨hx, hb, hml, hown, hts⟩ (ctX5_in l D Y H.size i4 (0 : Int32) (1 : Int32) r72 hc73) (cwS 3 hts gX5_mends_X5_in rfl rfl rfl (by decide +kernel) ⟨Nat.le_of_ble_eq_true rfl, Nat.le_of_ble_eq_true rfl⟩) (pcW_S hK hP (hD.same rfl) [] rfl (pc_map pc_nil)) rfl rfl hl.1 rfl (lv_room (Nat.le_of_ble_eq_true rfl)) dX5_mends_17 ⟨Nat.zero_le _, Nat.zero_le _⟩) hP (hD.same rfl) hS hA [] (pc_map pc_nil) (up_old rfl rfl (up_old rfl rfl (up_old rfl rfl (up_old rfl rfl (up_old rfl rfl (up_old rfl rfl (up_old rfl rfl (up_old rfl rfl (up_old rfl rfl (up_old rfl rfl (up_old rfl rfl (up_old rfl rfl (up_old rfl rfl (up_old rfl rfl (up_old rfl rfl (up_old rfl rfl (up_old rfl rfl (up_old rfl rfl (up_old rfl rfl up_nil))))))))))))))))))) (fun H locs hP hS => ?_)
        refine lv_if_eq (tgt := 27) hx hb dX5_mends_20 (by decide) (fun c74 => ?_) (fun c74 => ?_)
        · replace hM := if_at_pos hM c74
          exact hJ70 hM H locs ls hP hS (lv_sub hl [0, 1, 2, 3, 4] rfl)
        · replace hM := if_at_neg hM c74
          refine lv_iconst (v := (1 : Int32)) hx hb dX5_mends_23 (by decide) ?_
          refine lv_goto (tgt := 28) hx hb dX5_mends_24 (by decide) ?_
          exact hJ4 (1 : Int32) hM H locs ls hP hS (lv_sub hl [0, 1, 2, 3, 4] rfl)
