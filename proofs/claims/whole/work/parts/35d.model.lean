noncomputable def BX5_roundOf_27 (x9 : Int32) (k17 : Int32 → Option (Int32 × GS)) (mM_14 : GS) (rec23 : Int32 → Int32 → Option (Int32 × GS)) (x21 : Int32) (x22 : Int32) : Option (Int32 × GS) := if x9 ≤ x22 then (k17 x21) else (if x21 = (-1 : Int32) then (bnd1 (MX5_isLike mM_14 x22 x9) fun (r26 : Int32) => jn1 (fun (x28 : Int32) => nm (x22 + 1) fun (x30 : Int32) => rec23 x28 x30) (fun k29 => if r26 = 0 then (k29 (-1 : Int32)) else (k29 ((((501 : Int32) * x22) + x9) - x22)))) else (k17 x21))
noncomputable def BX5_roundOf_8 (k5 : Int32 → GS → Option (Int32 × GS)) (rec11 : Int32 → Int32 → GS → Option (Int32 × GS)) (x8 : Int32) (x9 : Int32) (mM_10 : GS) : Option (Int32 × GS) := if (500 : Int32) < x9 then (k5 x8 mM_10) else (if x8 = (-1 : Int32) then (bnd1 (MX5_layState mM_10 x9) fun (mM_14 : GS) => jn1 (fun (x16 : Int32) => bnd1 (MX5_goNight mM_14) fun (mM_18 : GS) => nm (x9 + 1) fun (x20 : Int32) => rec11 x16 x20 mM_18) (fun k17 => lq2 (BX5_roundOf_27 x9 k17 mM_14) FU x8 (0 : Int32))) else (k5 x8 mM_10))
noncomputable def MX5_roundOf (mM : GS) : Option (Int32 × GS) := bnd1 (MX5_putAside mM) fun (mM_1 : GS) => jn2 (fun (x3 : Int32) (mM_4 : GS) => bnd1 (MX5_putBack mM_4) fun (mM_6 : GS) => some (x3, mM_6)) (fun k5 => lq3 (BX5_roundOf_8 k5) FU (-1 : Int32) (0 : Int32) mM_1)
abbrev rmX5_roundOf : Room := { frames := 6, cells := 0, slots := 0, locals := 240 }
set_option maxHeartbeats 4000000 in
set_option maxRecDepth 100000 in
theorem ctX5_roundOf (l : Launch) (D : va_G) (Y : Nat → ClassId) (oM : Nat → Nat) (sz : Nat) (mM : GS) (tk : Int64) (rr : Int32) (mMz : GS) (hM : MX5_roundOf mM = some (rr, mMz)) : Met l yX5_roundOf wsX5_roundOf rmX5_roundOf (pcW [.ref (oM 0)] sz D Y (cMod Y oM mM tk)) (qiW rr D (cMod Y oM mMz tk) (va_A (cMod Y oM mM tk) sz)) 0 0 (va_A (cMod Y oM mM tk) sz) := by
  refine Met.ofW (cc := cX5_roundOf) (maxL := 4) (ret := (some .int)) (by decide) rfl ?_
  intro p e s m args below meth c s₁ B hml hv
  obtain ⟨rfl, hsz, hP, hK, hD0⟩ := hv
  have hx := B.exec
  have hb := B.bytes
  have hr := B.returns
  have hts := atoms_spec (ws := wsX5_roundOf) B.pre
  have hown : s.vm.findClass RX5 = some m.cls := findClass_of_methodNamed B.named
  have hlocks := B.notSynchronized
  subst hsz
  have hD := hD0.self (sz := s.heap.size)
  generalize hAe : va_A (cMod Y oM mM tk) s.heap.size = A at hD ⊢
  have hA : ∀ q : Nat, s.heap.size ≤ q → A q := fun q h => by rw [← hAe]; exact Or.inr h
  have hS : va_S A s.heap s.heap [] := va_S.rf
  have hl := lv_entry ([.ref (oM 0)]) (n := 4) (Nat.le_of_ble_eq_true rfl)
  rw [lg_entry_eq]
  generalize (lg_sl ([.ref (oM 0)]) ++ List.replicate (4 - (lg_sl ([.ref (oM 0)])).length) Slot.unset).toArray = ls at hl ⊢
  have hl : lv_has ls 4 [(0, .ref (oM 0))] := hl
  obtain ⟨QQ, hQQ⟩ : ∃ Q : State → Prop, Q = MQ below (qiW rr D (cMod Y oM mMz tk) A) ([.ref (oM 0)] : List Value).toArray s 0 0 A := ⟨_, rfl⟩
  rw [← hQQ]
  unfold MX5_roundOf at hM
  suffices hI : ∀ (H : Heap) (locs : List Loc), va_P D vwCl (cMod Y oM mM tk) H → va_S A s.heap H locs → W p l e (headSpec wsX5_roundOf rmX5_roundOf).room s m ([.ref (oM 0)] : List Value).toArray below meth c H locs 0 0 QQ (F0 m 0 ls []) from hI _ _ hP hS
  clear hP hS
  intro H locs hP hS
  refine lv_aload_n hx hb dX5_roundOf_0 rfl (lv_at hl 0 rfl) ?_
  obtain ⟨mM_1, hc2, hM⟩ := bnd1_at hM
  refine co_v (va_runV (As := []) (rest := []) ⟨hx, hb, hml, hown, hts⟩ (ctX5_putAside l D Y oM H.size mM tk mM_1 hc2) (cwV 0 hts gX5_roundOf_X5_putAside rfl rfl rfl (by decide +kernel) ⟨Nat.le_of_ble_eq_true rfl, Nat.le_of_ble_eq_true rfl⟩) (pcW_V0 (ci := 5) (q0 := 0) hK hP (hD.same rfl) rfl rfl) rfl rfl hl.1 rfl (lv_room (Nat.le_of_ble_eq_true rfl)) dX5_roundOf_1 ⟨Nat.zero_le _, Nat.zero_le _⟩) (hD.same rfl) hS hA (fun H locs hP hS => ?_)
  refine lv_iconst (v := (-1 : Int32)) hx hb dX5_roundOf_4 (by decide) ?_
  refine lv_istore_n (lv' := [(1, .int (-1 : Int32)), (0, .ref (oM 0))]) hx hb dX5_roundOf_5 rfl hl (by decide) rfl (fun ls hl => ?_)
  refine lv_iconst (v := (0 : Int32)) hx hb dX5_roundOf_6 (by decide) ?_
  refine lv_istore_n (lv' := [(2, .int (0 : Int32)), (1, .int (-1 : Int32)), (0, .ref (oM 0))]) hx hb dX5_roundOf_7 rfl hl (by decide) rfl (fun ls hl => ?_)
  refine jn2_at (fun (x3 : Int32) (mM_4 : GS) => ∀ (H : Heap) (locs : List Loc) (ls : Array Slot), va_P D vwCl (cMod Y oM mM_4 tk) H → va_S A s.heap H locs → lv_has ls 4 [(0, .ref (oM 0)), (1, .int x3)] → W p l e (headSpec wsX5_roundOf rmX5_roundOf).room s m ([.ref (oM 0)] : List Value).toArray below meth c H locs 0 0 QQ (F0 m 76 ls [])) hM (fun x3 mM_4 hM H locs ls hP hS hl => ?_) (fun k5 hJ5 hM => ?_)
  · refine lv_aload_n hx hb dX5_roundOf_76 rfl (lv_at hl 0 rfl) ?_
    obtain ⟨mM_6, hc7, hM⟩ := bnd1_at hM
    refine co_v (va_runV (As := []) (rest := []) ⟨hx, hb, hml, hown, hts⟩ (ctX5_putBack l D Y oM H.size mM_4 tk mM_6 hc7) (cwV 0 hts gX5_roundOf_X5_putBack rfl rfl rfl (by decide +kernel) ⟨Nat.le_of_ble_eq_true rfl, Nat.le_of_ble_eq_true rfl⟩) (pcW_V0 (ci := 5) (q0 := 0) hK hP (hD.same rfl) rfl rfl) rfl rfl hl.1 rfl (lv_room (Nat.le_of_ble_eq_true rfl)) dX5_roundOf_77 ⟨Nat.zero_le _, Nat.zero_le _⟩) (hD.same rfl) hS hA (fun H locs hP hS => ?_)
    refine lv_iload_n hx hb dX5_roundOf_80 rfl (lv_at hl 1 rfl) ?_
    cases hM
    rw [hQQ]
    exact W.iret hx hb hr (fun t ht hW => ⟨⟨_, (), rfl, rfl, by show va_P D vwCl _ t.heap; rw [ht]; exact hP⟩, hS.F ht⟩) hS.2.2 dX5_roundOf_81
  · refine lq3_at (fun (x8 : Int32) (x9 : Int32) (mM_10 : GS) => ∀ (H : Heap) (locs : List Loc) (ls : Array Slot), va_P D vwCl (cMod Y oM mM_10 tk) H → va_S A s.heap H locs → lv_has ls 4 [(0, .ref (oM 0)), (1, .int x8), (2, .int x9)] → W p l e (headSpec wsX5_roundOf rmX5_roundOf).room s m ([.ref (oM 0)] : List Value).toArray below meth c H locs 0 0 QQ (F0 m 8 ls [])) (fun rec11 x8 x9 mM_10 ih11 hM H locs ls hP hS hl => ?_) FU (-1 : Int32) (0 : Int32) mM_1 hM H locs ls hP hS (lv_sub hl [2, 1, 0] rfl)
    unfold BX5_roundOf_8 at hM
    refine lv_iload_n hx hb dX5_roundOf_8 rfl (lv_at hl 2 rfl) ?_
    refine lv_sipush (v := (500 : Int32)) hx hb dX5_roundOf_9 (by decide) ?_
    refine lv_icmp_gt (tgt := 76) hx hb dX5_roundOf_12 (by decide) (fun c12 => ?_) (fun c12 => ?_)
    · replace hM := if_at_pos hM c12
      exact hJ5 x8 mM_10 hM H locs ls hP hS (lv_sub hl [0, 1] rfl)
    · replace hM := if_at_neg hM c12
      refine lv_iload_n hx hb dX5_roundOf_15 rfl (lv_at hl 1 rfl) ?_
      refine lv_iconst (v := (-1 : Int32)) hx hb dX5_roundOf_16 (by decide) ?_
      refine lv_icmp_ne (tgt := 76) hx hb dX5_roundOf_17 (by decide) (fun c13 => ?_) (fun c13 => ?_)
      · replace hM := if_at_neg hM c13
        exact hJ5 x8 mM_10 hM H locs ls hP hS (lv_sub hl [0, 1] rfl)
      · replace hM := if_at_pos hM c13
        refine lv_aload_n hx hb dX5_roundOf_20 rfl (lv_at hl 0 rfl) ?_
        refine lv_iload_n hx hb dX5_roundOf_21 rfl (lv_at hl 2 rfl) ?_
        obtain ⟨mM_14, hc15, hM⟩ := bnd1_at hM
        refine co_v (va_runV (As := [.int x9]) (rest := []) ⟨hx, hb, hml, hown, hts⟩ (ctX5_layState l D Y oM H.size mM_10 tk x9 mM_14 hc15) (cwV 1 hts gX5_roundOf_X5_layState rfl rfl rfl (by decide +kernel) ⟨Nat.le_of_ble_eq_true rfl, Nat.le_of_ble_eq_true rfl⟩) (pcW_V0 (ci := 5) (q0 := 0) hK hP (hD.same rfl) rfl rfl) rfl rfl hl.1 rfl (lv_room (Nat.le_of_ble_eq_true rfl)) dX5_roundOf_22 ⟨Nat.zero_le _, Nat.zero_le _⟩) (hD.same rfl) hS hA (fun H locs hP hS => ?_)
        refine lv_iconst (v := (0 : Int32)) hx hb dX5_roundOf_25 (by decide) ?_
        refine lv_istore_n (lv' := [(3, .int (0 : Int32)), (0, .ref (oM 0)), (1, .int x8), (2, .int x9)]) hx hb dX5_roundOf_26 rfl hl (by decide) rfl (fun ls hl => ?_)
        refine jn1_at (fun (x16 : Int32) => ∀ (H : Heap) (locs : List Loc) (ls : Array Slot), va_P D vwCl (cMod Y oM mM_14 tk) H → va_S A s.heap H locs → lv_has ls 4 [(0, .ref (oM 0)), (1, .int x16), (2, .int x9)] → W p l e (headSpec wsX5_roundOf rmX5_roundOf).room s m ([.ref (oM 0)] : List Value).toArray below meth c H locs 0 0 QQ (F0 m 66 ls [])) hM (fun x16 hM H locs ls hP hS hl => ?_) (fun k17 hJ17 hM => ?_)
        · refine lv_aload_n hx hb dX5_roundOf_66 rfl (lv_at hl 0 rfl) ?_
          obtain ⟨mM_18, hc19, hM⟩ := bnd1_at hM
          refine co_v (va_runV (As := []) (rest := []) ⟨hx, hb, hml, hown, hts⟩ (ctX5_goNight l D Y oM H.size mM_14 tk mM_18 hc19) (cwV 0 hts gX5_roundOf_X5_goNight rfl rfl rfl (by decide +kernel) ⟨Nat.le_of_ble_eq_true rfl, Nat.le_of_ble_eq_true rfl⟩) (pcW_V0 (ci := 5) (q0 := 0) hK hP (hD.same rfl) rfl rfl) rfl rfl hl.1 rfl (lv_room (Nat.le_of_ble_eq_true rfl)) dX5_roundOf_67 ⟨Nat.zero_le _, Nat.zero_le _⟩) (hD.same rfl) hS hA (fun H locs hP hS => ?_)
          obtain ⟨x20, ex20⟩ : ∃ z : Int32, z = (x9 + 1) := ⟨_, rfl⟩
          replace hM := nm_at hM ex20
          refine lv_iinc (v := x20) (lv' := [(2, .int x20), (0, .ref (oM 0)), (1, .int x16)]) hx hb dX5_roundOf_70 hl (k := 2) rfl (by rw [ex20]; rfl) (by decide) rfl (fun ls hl => ?_)
          refine lv_goto (tgt := 8) hx hb dX5_roundOf_73 (by decide) ?_
          exact ih11 x16 x20 mM_18 hM H locs ls hP hS (lv_sub hl [1, 2, 0] rfl)
        · refine lq2_at (fun (x21 : Int32) (x22 : Int32) => ∀ (H : Heap) (locs : List Loc) (ls : Array Slot), va_P D vwCl (cMod Y oM mM_14 tk) H → va_S A s.heap H locs → lv_has ls 4 [(0, .ref (oM 0)), (1, .int x21), (2, .int x9), (3, .int x22)] → W p l e (headSpec wsX5_roundOf rmX5_roundOf).room s m ([.ref (oM 0)] : List Value).toArray below meth c H locs 0 0 QQ (F0 m 27 ls [])) (fun rec23 x21 x22 ih23 hM H locs ls hP hS hl => ?_) FU x8 (0 : Int32) hM H locs ls hP hS (lv_sub hl [1, 2, 3, 0] rfl)
          unfold BX5_roundOf_27 at hM
          refine lv_iload_n hx hb dX5_roundOf_27 rfl (lv_at hl 3 rfl) ?_
          refine lv_iload_n hx hb dX5_roundOf_28 rfl (lv_at hl 2 rfl) ?_
          refine lv_icmp_ge (tgt := 66) hx hb dX5_roundOf_29 (by decide) (fun c24 => ?_) (fun c24 => ?_)
          · replace hM := if_at_pos hM c24
            exact hJ17 x21 hM H locs ls hP hS (lv_sub hl [0, 1, 2] rfl)
          · replace hM := if_at_neg hM c24
            refine lv_iload_n hx hb dX5_roundOf_32 rfl (lv_at hl 1 rfl) ?_
            refine lv_iconst (v := (-1 : Int32)) hx hb dX5_roundOf_33 (by decide) ?_
            refine lv_icmp_ne (tgt := 66) hx hb dX5_roundOf_34 (by decide) (fun c25 => ?_) (fun c25 => ?_)
            · replace hM := if_at_neg hM c25
              exact hJ17 x21 hM H locs ls hP hS (lv_sub hl [0, 1, 2] rfl)
            · replace hM := if_at_pos hM c25
              refine lv_aload_n hx hb dX5_roundOf_37 rfl (lv_at hl 0 rfl) ?_
              refine lv_iload_n hx hb dX5_roundOf_38 rfl (lv_at hl 3 rfl) ?_
              refine lv_iload_n hx hb dX5_roundOf_39 rfl (lv_at hl 2 rfl) ?_
              obtain ⟨r26, hc27, hM⟩ := bnd1_at hM
              refine co_i (va_runV (As := [.int x22, .int x9]) (rest := []) ⟨hx, hb, hml, hown, hts⟩ (ctX5_isLike l D Y oM H.size mM_14 tk x22 x9 r26 hc27) (cwV 2 hts gX5_roundOf_X5_isLike rfl rfl rfl (by decide +kernel) ⟨Nat.le_of_ble_eq_true rfl, Nat.le_of_ble_eq_true rfl⟩) (pcW_V0 (ci := 5) (q0 := 0) hK hP (hD.same rfl) rfl rfl) rfl rfl hl.1 rfl (lv_room (Nat.le_of_ble_eq_true rfl)) dX5_roundOf_40 ⟨Nat.zero_le _, Nat.zero_le _⟩) (hD.same rfl) hS hA (fun H locs hP hS => ?_)
              refine jn1_at (fun (x28 : Int32) => ∀ (H : Heap) (locs : List Loc) (ls : Array Slot), va_P D vwCl (cMod Y oM mM_14 tk) H → va_S A s.heap H locs → lv_has ls 4 [(0, .ref (oM 0)), (2, .int x9), (3, .int x22)] → W p l e (headSpec wsX5_roundOf rmX5_roundOf).room s m ([.ref (oM 0)] : List Value).toArray below meth c H locs 0 0 QQ (F0 m 59 ls [.int x28])) hM (fun x28 hM H locs ls hP hS hl => ?_) (fun k29 hJ29 hM => ?_)
              · refine lv_istore_n (lv' := [(1, .int x28), (0, .ref (oM 0)), (2, .int x9), (3, .int x22)]) hx hb dX5_roundOf_59 rfl hl (by decide) rfl (fun ls hl => ?_)
                obtain ⟨x30, ex30⟩ : ∃ z : Int32, z = (x22 + 1) := ⟨_, rfl⟩
                replace hM := nm_at hM ex30
                refine lv_iinc (v := x30) (lv' := [(3, .int x30), (1, .int x28), (0, .ref (oM 0)), (2, .int x9)]) hx hb dX5_roundOf_60 hl (k := 3) rfl (by rw [ex30]; rfl) (by decide) rfl (fun ls hl => ?_)
                refine lv_goto (tgt := 27) hx hb dX5_roundOf_63 (by decide) ?_
                exact ih23 x28 x30 hM H locs ls hP hS (lv_sub hl [2, 1, 3, 0] rfl)
              · refine lv_if_eq (tgt := 58) hx hb dX5_roundOf_43 (by decide) (fun c31 => ?_) (fun c31 => ?_)
                · replace hM := if_at_pos hM c31
                  refine lv_iconst (v := (-1 : Int32)) hx hb dX5_roundOf_58 (by decide) ?_
                  exact hJ29 (-1 : Int32) hM H locs ls hP hS (lv_sub hl [0, 2, 3] rfl)
                · replace hM := if_at_neg hM c31
                  refine lv_sipush (v := (501 : Int32)) hx hb dX5_roundOf_46 (by decide) ?_
                  refine lv_iload_n hx hb dX5_roundOf_49 rfl (lv_at hl 3 rfl) ?_
                  refine lv_imul hx hb dX5_roundOf_50 ?_
                  refine lv_iload_n hx hb dX5_roundOf_51 rfl (lv_at hl 2 rfl) ?_
                  refine lv_iadd hx hb dX5_roundOf_52 ?_
                  refine lv_iload_n hx hb dX5_roundOf_53 rfl (lv_at hl 3 rfl) ?_
                  refine lv_isub hx hb dX5_roundOf_54 ?_
                  refine lv_goto (tgt := 59) hx hb dX5_roundOf_55 (by decide) ?_
                  exact hJ29 ((((501 : Int32) * x22) + x9) - x22) hM H locs ls hP hS (lv_sub hl [0, 2, 3] rfl)
noncomputable def MX5_round (mM : GS) (i1 : Int32) : Option (Int32 × GS) := bnd1 (MX5_in i1 (0 : Int32) (1 : Int32)) fun (r1 : Int32) => if r1 = 0 then (some ((-3 : Int32), mM)) else (bnd2 (MX5_roundOf mM) fun (r4 : Int32) (mM_5 : GS) => jn1 (fun (x7 : Int32) => some (x7, mM_5)) (fun k8 => if r4 = (-1 : Int32) then (k8 (-1 : Int32)) else (if i1 = 0 then (k8 (r4 / (501 : Int32))) else (k8 (r4 - r4 / (501 : Int32) * (501 : Int32))))))
abbrev rmX5_round : Room := { frames := 7, cells := 0, slots := 0, locals := 280 }
set_option maxHeartbeats 4000000 in
set_option maxRecDepth 100000 in
theorem ctX5_round (l : Launch) (D : va_G) (Y : Nat → ClassId) (oM : Nat → Nat) (sz : Nat) (mM : GS) (tk : Int64) (i1 : Int32) (rr : Int32) (mMz : GS) (hM : MX5_round mM i1 = some (rr, mMz)) : Met l yX5_round wsX5_round rmX5_round (pcW [.ref (oM 0), .int i1] sz D Y (cMod Y oM mM tk)) (qiW rr D (cMod Y oM mMz tk) (va_A (cMod Y oM mM tk) sz)) 0 0 (va_A (cMod Y oM mM tk) sz) := by
  refine Met.ofW (cc := cX5_round) (maxL := 3) (ret := (some .int)) (by decide) rfl ?_
  intro p e s m args below meth c s₁ B hml hv
  obtain ⟨rfl, hsz, hP, hK, hD0⟩ := hv
  have hx := B.exec
  have hb := B.bytes
  have hr := B.returns
  have hts := atoms_spec (ws := wsX5_round) B.pre
  have hown : s.vm.findClass RX5 = some m.cls := findClass_of_methodNamed B.named
  have hlocks := B.notSynchronized
  subst hsz
  have hD := hD0.self (sz := s.heap.size)
  generalize hAe : va_A (cMod Y oM mM tk) s.heap.size = A at hD ⊢
  have hA : ∀ q : Nat, s.heap.size ≤ q → A q := fun q h => by rw [← hAe]; exact Or.inr h
  have hS : va_S A s.heap s.heap [] := va_S.rf
  have hl := lv_entry ([.ref (oM 0), .int i1]) (n := 3) (Nat.le_of_ble_eq_true rfl)
  rw [lg_entry_eq]
  generalize (lg_sl ([.ref (oM 0), .int i1]) ++ List.replicate (3 - (lg_sl ([.ref (oM 0), .int i1])).length) Slot.unset).toArray = ls at hl ⊢
  have hl : lv_has ls 3 [(0, .ref (oM 0)), (1, .int i1)] := hl
  obtain ⟨QQ, hQQ⟩ : ∃ Q : State → Prop, Q = MQ below (qiW rr D (cMod Y oM mMz tk) A) ([.ref (oM 0), .int i1] : List Value).toArray s 0 0 A := ⟨_, rfl⟩
  rw [← hQQ]
  unfold MX5_round at hM
  suffices hI : ∀ (H : Heap) (locs : List Loc), va_P D vwCl (cMod Y oM mM tk) H → va_S A s.heap H locs → W p l e (headSpec wsX5_round rmX5_round).room s m ([.ref (oM 0), .int i1] : List Value).toArray below meth c H locs 0 0 QQ (F0 m 0 ls []) from hI _ _ hP hS
  clear hP hS
  intro H locs hP hS
  refine lv_iload_n hx hb dX5_round_0 rfl (lv_at hl 1 rfl) ?_
  refine lv_iconst (v := (0 : Int32)) hx hb dX5_round_1 (by decide) ?_
  refine lv_iconst (v := (1 : Int32)) hx hb dX5_round_2 (by decide) ?_
  obtain ⟨r1, hc2, hM⟩ := bnd1_at hM
  refine cm_i (w2 := (cMod Y oM mM tk)) (va_runS (As := [.int i1, .int (0 : Int32), .int (1 : Int32)]) (rest := []) ⟨hx, hb, hml, hown, hts⟩ (ctX5_in l D Y H.size i1 (0 : Int32) (1 : Int32) r1 hc2) (cwS 3 hts gX5_round_X5_in rfl rfl rfl (by decide +kernel) ⟨Nat.le_of_ble_eq_true rfl, Nat.le_of_ble_eq_true rfl⟩) (pcW_S hK hP (hD.same rfl) [] rfl (pc_map pc_nil)) rfl rfl hl.1 rfl (lv_room (Nat.le_of_ble_eq_true rfl)) dX5_round_3 ⟨Nat.zero_le _, Nat.zero_le _⟩) hP (hD.same rfl) hS hA [] (pc_map pc_nil) (up_old rfl rfl (up_old rfl rfl (up_old rfl rfl (up_old rfl rfl (up_old rfl rfl (up_old rfl rfl (up_old rfl rfl (up_old rfl rfl (up_old rfl rfl (up_old rfl rfl (up_old rfl rfl (up_old rfl rfl (up_old rfl rfl (up_old rfl rfl (up_old rfl rfl (up_old rfl rfl (up_old rfl rfl (up_old rfl rfl (up_old rfl rfl up_nil))))))))))))))))))) (fun H locs hP hS => ?_)
  refine lv_if_ne (tgt := 12) hx hb dX5_round_6 (by decide) (fun c3 => ?_) (fun c3 => ?_)
  · replace hM := if_at_neg hM c3
    refine lv_aload_n hx hb dX5_round_12 rfl (lv_at hl 0 rfl) ?_
    obtain ⟨r4, mM_5, hc6, hM⟩ := bnd2_at hM
    refine co_i (va_runV (As := []) (rest := []) ⟨hx, hb, hml, hown, hts⟩ (ctX5_roundOf l D Y oM H.size mM tk r4 mM_5 hc6) (cwV 0 hts gX5_round_X5_roundOf rfl rfl rfl (by decide +kernel) ⟨Nat.le_of_ble_eq_true rfl, Nat.le_of_ble_eq_true rfl⟩) (pcW_V0 (ci := 5) (q0 := 0) hK hP (hD.same rfl) rfl rfl) rfl rfl hl.1 rfl (lv_room (Nat.le_of_ble_eq_true rfl)) dX5_round_13 ⟨Nat.zero_le _, Nat.zero_le _⟩) (hD.same rfl) hS hA (fun H locs hP hS => ?_)
    refine lv_istore_n (lv' := [(2, .int r4), (0, .ref (oM 0)), (1, .int i1)]) hx hb dX5_round_16 rfl hl (by decide) rfl (fun ls hl => ?_)
    refine lv_iload_n hx hb dX5_round_17 rfl (lv_at hl 0 rfl) ?_
    refine lv_iconst (v := (-1 : Int32)) hx hb dX5_round_18 (by decide) ?_
    refine jn1_at (fun (x7 : Int32) => ∀ (H : Heap) (locs : List Loc) (ls : Array Slot), va_P D vwCl (cMod Y oM mM_5 tk) H → va_S A s.heap H locs → lv_has ls 3 [] → W p l e (headSpec wsX5_round rmX5_round).room s m ([.ref (oM 0), .int i1] : List Value).toArray below meth c H locs 0 0 QQ (F0 m 43 ls [.int x7])) hM (fun x7 hM H locs ls hP hS hl => ?_) (fun k8 hJ8 hM => ?_)
    · cases hM
      rw [hQQ]
      exact W.iret hx hb hr (fun t ht hW => ⟨⟨_, (), rfl, rfl, by show va_P D vwCl _ t.heap; rw [ht]; exact hP⟩, hS.F ht⟩) hS.2.2 dX5_round_43
    · refine lv_icmp_ne (tgt := 26) hx hb dX5_round_19 (by decide) (fun c9 => ?_) (fun c9 => ?_)
      · replace hM := if_at_neg hM c9
        refine lv_iload_n hx hb dX5_round_26 rfl (lv_at hl 2 rfl) ?_
        refine lv_if_ne (tgt := 38) hx hb dX5_round_27 (by decide) (fun c10 => ?_) (fun c10 => ?_)
        · replace hM := if_at_neg hM c10
          refine lv_iload_n hx hb dX5_round_38 rfl (lv_at hl 0 rfl) ?_
          refine lv_sipush (v := (501 : Int32)) hx hb dX5_round_39 (by decide) ?_
          refine lv_irem hx hb dX5_round_42 (by decide) ?_
          exact hJ8 (r4 - r4 / (501 : Int32) * (501 : Int32)) hM H locs ls hP hS (lv_sub hl [] rfl)
        · replace hM := if_at_pos hM c10
          refine lv_iload_n hx hb dX5_round_30 rfl (lv_at hl 0 rfl) ?_
          refine lv_sipush (v := (501 : Int32)) hx hb dX5_round_31 (by decide) ?_
          refine lv_idiv hx hb dX5_round_34 (by decide) ?_
          refine lv_goto (tgt := 43) hx hb dX5_round_35 (by decide) ?_
          exact hJ8 (r4 / (501 : Int32)) hM H locs ls hP hS (lv_sub hl [] rfl)
      · replace hM := if_at_pos hM c9
        refine lv_iconst (v := (-1 : Int32)) hx hb dX5_round_22 (by decide) ?_
        refine lv_goto (tgt := 43) hx hb dX5_round_23 (by decide) ?_
        exact hJ8 (-1 : Int32) hM H locs ls hP hS (lv_sub hl [] rfl)
  · replace hM := if_at_pos hM c3
    refine lv_bipush (v := (-3 : Int32)) hx hb dX5_round_9 (by decide) ?_
    cases hM
    rw [hQQ]
    exact W.iret hx hb hr (fun t ht hW => ⟨⟨_, (), rfl, rfl, by show va_P D vwCl _ t.heap; rw [ht]; exact hP⟩, hS.F ht⟩) hS.2.2 dX5_round_11
