noncomputable def BX2_append_17 (i2 : Int32) (k3 : GS → Option (Int32 × GS)) (i1 : Int64) (rec8 : Int32 → GS → Option (Int32 × GS)) (x6 : Int32) (xT_7 : GS) : Option (Int32 × GS) := if i2 ≤ x6 then (k3 xT_7) else (nm (((i1 >>> (((8 : Int32) * x6).toInt64 &&& 63)) &&& (255 : Int64)).toInt32) fun (x10 : Int32) => chkI ((xT_7 0 1) + x6) 200 (nm (upA xT_7 1 (upd (xT_7 1) ((xT_7 0 1) + x6).toNatClampNeg x10)) fun (xT_12 : GS) => nm (x6 + 1) fun (x13 : Int32) => rec8 x13 xT_12))
noncomputable def MX2_append (xT : GS) (i1 : Int64) (i2 : Int32) : Option (Int32 × GS) := if i2 ≤ ((200 : Int32) - (xT 0 1)) then (jn1 (fun (xT_2 : GS) => nm ((xT_2 0 1) + i2) fun (x4 : Int32) => nm (up2 xT_2 0 1 x4) fun (xT_5 : GS) => some ((1 : Int32), xT_5)) (fun k3 => lq2 (BX2_append_17 i2 k3 i1) FU (0 : Int32) xT)) else (some ((0 : Int32), xT))
abbrev rmX2_append : Room := { frames := 1, cells := 0, slots := 0, locals := 40 }
set_option maxHeartbeats 4000000 in
set_option maxRecDepth 100000 in
theorem ctX2_append (l : Launch) (D : va_G) (Y : Nat → ClassId) (bT : Nat → Nat) (sz : Nat) (xT : GS) (i1 : Int64) (i2 : Int32) (rr : Int32) (xTz : GS) (hM : MX2_append xT i1 i2 = some (rr, xTz)) : Met l yX2_append wsX2_append rmX2_append (pcW [.ref (bT 0), .long i1, .int i2] sz D Y (cText Y bT xT)) (qiW rr D (cText Y bT xTz) (va_A (cText Y bT xT) sz)) 0 0 (va_A (cText Y bT xT) sz) := by
  refine Met.ofW (cc := cX2_append) (maxL := 5) (ret := (some .boolean)) (by decide) rfl ?_
  intro p e s m args below meth c s₁ B hml hv
  obtain ⟨rfl, hsz, hP, hK, hD0⟩ := hv
  have hx := B.exec
  have hb := B.bytes
  have hr := B.returns
  have hts := atoms_spec (ws := wsX2_append) B.pre
  have hown : s.vm.findClass RX2 = some m.cls := findClass_of_methodNamed B.named
  have hlocks := B.notSynchronized
  subst hsz
  have hD := hD0.self (sz := s.heap.size)
  generalize hAe : va_A (cText Y bT xT) s.heap.size = A at hD ⊢
  have hA : ∀ q : Nat, s.heap.size ≤ q → A q := fun q h => by rw [← hAe]; exact Or.inr h
  have hS : va_S A s.heap s.heap [] := va_S.rf
  have hi2 : ∀ w ∈ wsX20, w ∈ wsX2_append := fun w h => List.mem_cons_of_mem _ (List.mem_append_right _ h)
  have hl := lv_entry ([.ref (bT 0), .long i1, .int i2]) (n := 5) (Nat.le_of_ble_eq_true rfl)
  rw [lg_entry_eq]
  generalize (lg_sl ([.ref (bT 0), .long i1, .int i2]) ++ List.replicate (5 - (lg_sl ([.ref (bT 0), .long i1, .int i2])).length) Slot.unset).toArray = ls at hl ⊢
  have hl : lv_has ls 5 [(0, .ref (bT 0)), (1, .long i1), (3, .int i2)] := hl
  obtain ⟨QQ, hQQ⟩ : ∃ Q : State → Prop, Q = MQ below (qiW rr D (cText Y bT xTz) A) ([.ref (bT 0), .long i1, .int i2] : List Value).toArray s 0 0 A := ⟨_, rfl⟩
  rw [← hQQ]
  unfold MX2_append at hM
  suffices hI : ∀ (H : Heap) (locs : List Loc), va_P D vwCl (cText Y bT xT) H → va_S A s.heap H locs → W p l e (headSpec wsX2_append rmX2_append).room s m ([.ref (bT 0), .long i1, .int i2] : List Value).toArray below meth c H locs 0 0 QQ (F0 m 0 ls []) from hI _ _ hP hS
  clear hP hS
  intro H locs hP hS
  refine lv_iload_n hx hb dX2_append_0 rfl (lv_at hl 2 rfl) ?_
  refine lv_sipush (v := (200 : Int32)) hx hb dX2_append_1 (by decide) ?_
  refine lv_aload_n hx hb dX2_append_4 rfl (lv_at hl 0 rfl) ?_
  refine va_get hx hb hts hi2 hown hK hP 0 rfl rfl 1 (by decide) (hts (.fieldLink RX2 15 "NightPlots$Text" "length" "I") (List.mem_of_getElem? (i := 1) rfl)) (fun _ h9 => h9) rfl dX2_append_5 ?_
  refine lv_isub hx hb dX2_append_8 ?_
  refine lv_icmp_le (tgt := 14) hx hb dX2_append_9 (by decide) (fun c1 => ?_) (fun c1 => ?_)
  · replace hM := if_at_pos hM c1
    refine lv_iconst (v := (0 : Int32)) hx hb dX2_append_14 (by decide) ?_
    refine lv_istore (lv' := [(4, .int (0 : Int32)), (0, .ref (bT 0)), (1, .long i1), (3, .int i2)]) hx hb dX2_append_15 hl (by decide) rfl (fun ls hl => ?_)
    refine jn1_at (fun (xT_2 : GS) => ∀ (H : Heap) (locs : List Loc) (ls : Array Slot), va_P D vwCl (cText Y bT xT_2) H → va_S A s.heap H locs → lv_has ls 5 [(0, .ref (bT 0)), (3, .int i2)] → W p l e (headSpec wsX2_append rmX2_append).room s m ([.ref (bT 0), .long i1, .int i2] : List Value).toArray below meth c H locs 0 0 QQ (F0 m 53 ls [])) hM (fun xT_2 hM H locs ls hP hS hl => ?_) (fun k3 hJ3 hM => ?_)
    · refine lv_aload_n hx hb dX2_append_53 rfl (lv_at hl 0 rfl) ?_
      refine lv_dup hx hb dX2_append_54 rfl ?_
      refine va_get hx hb hts hi2 hown hK hP 0 rfl rfl 1 (by decide) (hts (.fieldLink RX2 15 "NightPlots$Text" "length" "I") (List.mem_of_getElem? (i := 1) rfl)) (fun _ h9 => h9) rfl dX2_append_55 ?_
      refine lv_iload_n hx hb dX2_append_58 rfl (lv_at hl 1 rfl) ?_
      refine lv_iadd hx hb dX2_append_59 ?_
      refine lv_topi (fun x4 ex4 => ?_)
      replace hM := nm_at hM ex4
      refine va_put (ty := .int) hx hb hts hi2 tyX2 tyX2_ok nmX2 hown hK hP (hD.same rfl) hS 0 rfl rfl 1 (by decide) (hts (.fieldLink RX2 15 "NightPlots$Text" "length" "I") (List.mem_of_getElem? (i := 1) rfl)) (fun _ h9 => h9) rfl (by decide +kernel) rfl rfl (Nat.le_of_ble_eq_true rfl) dX2_append_60 (fun H locs hP _ hS => ?_)
      obtain ⟨xT_5, exT_5⟩ : ∃ z : GS, z = (up2 xT_2 0 1 x4) := ⟨_, rfl⟩
      have hP : va_P D vwCl (cText Y bT xT_5) H := by rw [exT_5]; exact hP
      replace hM := nm_at hM exT_5
      refine lv_iconst (v := (1 : Int32)) hx hb dX2_append_63 (by decide) ?_
      cases hM
      rw [hQQ]
      exact W.zret (ty := .boolean) hx hb hr rfl (fun t ht hW => ⟨⟨_, (), rfl, rfl, by show va_P D vwCl _ t.heap; rw [ht]; exact hP⟩, hS.F ht⟩) hS.2.2 dX2_append_64
    · refine lq2_at (fun (x6 : Int32) (xT_7 : GS) => ∀ (H : Heap) (locs : List Loc) (ls : Array Slot), va_P D vwCl (cText Y bT xT_7) H → va_S A s.heap H locs → lv_has ls 5 [(0, .ref (bT 0)), (1, .long i1), (3, .int i2), (4, .int x6)] → W p l e (headSpec wsX2_append rmX2_append).room s m ([.ref (bT 0), .long i1, .int i2] : List Value).toArray below meth c H locs 0 0 QQ (F0 m 17 ls [])) (fun rec8 x6 xT_7 ih8 hM H locs ls hP hS hl => ?_) FU (0 : Int32) xT hM H locs ls hP hS (lv_sub hl [1, 2, 3, 0] rfl)
      unfold BX2_append_17 at hM
      refine lv_iload hx hb dX2_append_17 (lv_at hl 3 rfl) ?_
      refine lv_iload_n hx hb dX2_append_19 rfl (lv_at hl 2 rfl) ?_
      refine lv_icmp_ge (tgt := 53) hx hb dX2_append_20 (by decide) (fun c9 => ?_) (fun c9 => ?_)
      · replace hM := if_at_pos hM c9
        exact hJ3 xT_7 hM H locs ls hP hS (lv_sub hl [0, 2] rfl)
      · replace hM := if_at_neg hM c9
        refine lv_aload_n hx hb dX2_append_23 rfl (lv_at hl 0 rfl) ?_
        refine va_get hx hb hts hi2 hown hK hP 0 rfl rfl 0 (by decide) (hts (.fieldLink RX2 9 "NightPlots$Text" "bytes" "[I") (List.mem_of_getElem? (i := 2) rfl)) (fun _ h9 => h9) rfl dX2_append_24 ?_
        refine lv_aload_n hx hb dX2_append_27 rfl (lv_at hl 0 rfl) ?_
        refine va_get hx hb hts hi2 hown hK hP 0 rfl rfl 1 (by decide) (hts (.fieldLink RX2 15 "NightPlots$Text" "length" "I") (List.mem_of_getElem? (i := 1) rfl)) (fun _ h9 => h9) rfl dX2_append_28 ?_
        refine lv_iload hx hb dX2_append_31 (lv_at hl 3 rfl) ?_
        refine lv_iadd hx hb dX2_append_33 ?_
        refine lv_lload_n hx hb dX2_append_34 rfl (lv_at hl 1 rfl) ?_
        refine lv_bipush (v := (8 : Int32)) hx hb dX2_append_35 (by decide) ?_
        refine lv_iload hx hb dX2_append_37 (lv_at hl 3 rfl) ?_
        refine lv_imul hx hb dX2_append_39 ?_
        refine lv_lshr (v := (i1 >>> (((8 : Int32) * x6).toInt64 &&& 63))) hx hb dX2_append_40 rfl ?_
        refine lv_ldc2 (v := (255 : Int64)) hx hb hown (hts (.constantLong RX2 19 (255)) (List.mem_of_getElem? (i := 3) rfl)) dX2_append_41 ?_
        refine lv_land hx hb dX2_append_44 ?_
        refine lv_l2i (v := ((i1 >>> (((8 : Int32) * x6).toInt64 &&& 63)) &&& (255 : Int64)).toInt32) hx hb dX2_append_45 rfl ?_
        refine lv_topi (fun x10 ex10 => ?_)
        replace hM := nm_at hM ex10
        obtain ⟨hi_11, hM⟩ := chkI_at hM
        refine va_iast hx hb hK hP (hD.same rfl) hS 1 0 rfl rfl hi_11 dX2_append_46 (fun H locs hP _ hS => ?_)
        obtain ⟨xT_12, exT_12⟩ : ∃ z : GS, z = (upA xT_7 1 (upd (xT_7 1) ((xT_7 0 1) + x6).toNatClampNeg x10)) := ⟨_, rfl⟩
        have hP : va_P D vwCl (cText Y bT xT_12) H := by rw [exT_12]; exact hP
        replace hM := nm_at hM exT_12
        obtain ⟨x13, ex13⟩ : ∃ z : Int32, z = (x6 + 1) := ⟨_, rfl⟩
        replace hM := nm_at hM ex13
        refine lv_iinc (v := x13) (lv' := [(4, .int x13), (0, .ref (bT 0)), (1, .long i1), (3, .int i2)]) hx hb dX2_append_47 hl (k := 3) rfl (by rw [ex13]; rfl) (by decide) rfl (fun ls hl => ?_)
        refine lv_goto (tgt := 17) hx hb dX2_append_50 (by decide) ?_
        exact ih8 x13 xT_12 hM H locs ls hP hS (lv_sub hl [1, 2, 3, 0] rfl)
  · replace hM := if_at_neg hM c1
    refine lv_iconst (v := (0 : Int32)) hx hb dX2_append_12 (by decide) ?_
    cases hM
    rw [hQQ]
    exact W.zret (ty := .boolean) hx hb hr rfl (fun t ht hW => ⟨⟨_, (), rfl, rfl, by show va_P D vwCl _ t.heap; rw [ht]; exact hP⟩, hS.F ht⟩) hS.2.2 dX2_append_13
noncomputable def MX2_sortOf (i1 : Int32) : Option (Int32) := jn0 (jn1 (fun (x2 : Int32) => some (x2)) (fun k3 => jn0 (k3 (0 : Int32)) (fun k4 => if i1 < (48 : Int32) then (k4) else (if (57 : Int32) < i1 then (k4) else (k3 (2 : Int32)))))) (fun k1 => if i1 < (97 : Int32) then (k1) else (if (122 : Int32) < i1 then (k1) else (some ((1 : Int32)))))
abbrev rmX2_sortOf : Room := { frames := 1, cells := 0, slots := 0, locals := 40 }
set_option maxHeartbeats 4000000 in
set_option maxRecDepth 100000 in
theorem ctX2_sortOf (l : Launch) (D : va_G) (Y : Nat → ClassId) (sz : Nat) (i1 : Int32) (rr : Int32) (hM : MX2_sortOf i1 = some (rr)) : Met l yX2_sortOf wsX2_sortOf rmX2_sortOf (pcW [.int i1] sz D Y (([] : va_W))) (qiW rr D (([] : va_W)) (va_A (([] : va_W)) sz)) 0 0 (va_A (([] : va_W)) sz) := by
  refine Met.ofW (cc := cX2_sortOf) (maxL := 1) (ret := (some .int)) (by decide) rfl ?_
  intro p e s m args below meth c s₁ B hml hv
  obtain ⟨rfl, hsz, hP, hK, hD0⟩ := hv
  have hx := B.exec
  have hb := B.bytes
  have hr := B.returns
  have hts := atoms_spec (ws := wsX2_sortOf) B.pre
  have hown : s.vm.findClass RX2 = some m.cls := findClass_of_methodNamed B.named
  have hlocks := B.notSynchronized
  subst hsz
  have hD := hD0.self (sz := s.heap.size)
  generalize hAe : va_A (([] : va_W)) s.heap.size = A at hD ⊢
  have hA : ∀ q : Nat, s.heap.size ≤ q → A q := fun q h => by rw [← hAe]; exact Or.inr h
  have hS : va_S A s.heap s.heap [] := va_S.rf
  have hl := lv_entry ([.int i1]) (n := 1) (Nat.le_of_ble_eq_true rfl)
  rw [lg_entry_eq]
  generalize (lg_sl ([.int i1]) ++ List.replicate (1 - (lg_sl ([.int i1])).length) Slot.unset).toArray = ls at hl ⊢
  have hl : lv_has ls 1 [(0, .int i1)] := hl
  obtain ⟨QQ, hQQ⟩ : ∃ Q : State → Prop, Q = MQ below (qiW rr D (([] : va_W)) A) ([.int i1] : List Value).toArray s 0 0 A := ⟨_, rfl⟩
  rw [← hQQ]
  unfold MX2_sortOf at hM
  suffices hI : ∀ (H : Heap) (locs : List Loc), va_P D vwCl (([] : va_W)) H → va_S A s.heap H locs → W p l e (headSpec wsX2_sortOf rmX2_sortOf).room s m ([.int i1] : List Value).toArray below meth c H locs 0 0 QQ (F0 m 0 ls []) from hI _ _ hP hS
  clear hP hS
  intro H locs hP hS
  refine lv_iload_n hx hb dX2_sortOf_0 rfl (lv_at hl 0 rfl) ?_
  refine lv_bipush (v := (97 : Int32)) hx hb dX2_sortOf_1 (by decide) ?_
  refine jn0_at (∀ (H : Heap) (locs : List Loc) (ls : Array Slot), va_P D vwCl (([] : va_W)) H → va_S A s.heap H locs → lv_has ls 1 [(0, .int i1)] → W p l e (headSpec wsX2_sortOf rmX2_sortOf).room s m ([.int i1] : List Value).toArray below meth c H locs 0 0 QQ (F0 m 14 ls [])) hM (fun  hM H locs ls hP hS hl => ?_) (fun k1 hJ1 hM => ?_)
  · refine lv_iload_n hx hb dX2_sortOf_14 rfl (lv_at hl 0 rfl) ?_
    refine lv_bipush (v := (48 : Int32)) hx hb dX2_sortOf_15 (by decide) ?_
    refine jn1_at (fun (x2 : Int32) => ∀ (H : Heap) (locs : List Loc) (ls : Array Slot), va_P D vwCl (([] : va_W)) H → va_S A s.heap H locs → lv_has ls 1 [] → W p l e (headSpec wsX2_sortOf rmX2_sortOf).room s m ([.int i1] : List Value).toArray below meth c H locs 0 0 QQ (F0 m 31 ls [.int x2])) hM (fun x2 hM H locs ls hP hS hl => ?_) (fun k3 hJ3 hM => ?_)
    · cases hM
      rw [hQQ]
      exact W.iret hx hb hr (fun t ht hW => ⟨⟨_, (), rfl, rfl, by show va_P D vwCl _ t.heap; rw [ht]; exact hP⟩, hS.F ht⟩) hS.2.2 dX2_sortOf_31
    · refine jn0_at (∀ (H : Heap) (locs : List Loc) (ls : Array Slot), va_P D vwCl (([] : va_W)) H → va_S A s.heap H locs → lv_has ls 1 [] → W p l e (headSpec wsX2_sortOf rmX2_sortOf).room s m ([.int i1] : List Value).toArray below meth c H locs 0 0 QQ (F0 m 30 ls [])) hM (fun  hM H locs ls hP hS hl => ?_) (fun k4 hJ4 hM => ?_)
      · refine lv_iconst (v := (0 : Int32)) hx hb dX2_sortOf_30 (by decide) ?_
        exact hJ3 (0 : Int32) hM H locs ls hP hS (lv_sub hl [] rfl)
      · refine lv_icmp_lt (tgt := 30) hx hb dX2_sortOf_17 (by decide) (fun c5 => ?_) (fun c5 => ?_)
        · replace hM := if_at_pos hM c5
          exact hJ4 hM H locs ls hP hS (lv_sub hl [] rfl)
        · replace hM := if_at_neg hM c5
          refine lv_iload_n hx hb dX2_sortOf_20 rfl (lv_at hl 0 rfl) ?_
          refine lv_bipush (v := (57 : Int32)) hx hb dX2_sortOf_21 (by decide) ?_
          refine lv_icmp_gt (tgt := 30) hx hb dX2_sortOf_23 (by decide) (fun c6 => ?_) (fun c6 => ?_)
          · replace hM := if_at_pos hM c6
            exact hJ4 hM H locs ls hP hS (lv_sub hl [] rfl)
          · replace hM := if_at_neg hM c6
            refine lv_iconst (v := (2 : Int32)) hx hb dX2_sortOf_26 (by decide) ?_
            refine lv_goto (tgt := 31) hx hb dX2_sortOf_27 (by decide) ?_
            exact hJ3 (2 : Int32) hM H locs ls hP hS (lv_sub hl [] rfl)
  · refine lv_icmp_lt (tgt := 14) hx hb dX2_sortOf_3 (by decide) (fun c7 => ?_) (fun c7 => ?_)
    · replace hM := if_at_pos hM c7
      exact hJ1 hM H locs ls hP hS (lv_sub hl [0] rfl)
    · replace hM := if_at_neg hM c7
      refine lv_iload_n hx hb dX2_sortOf_6 rfl (lv_at hl 0 rfl) ?_
      refine lv_bipush (v := (122 : Int32)) hx hb dX2_sortOf_7 (by decide) ?_
      refine lv_icmp_gt (tgt := 14) hx hb dX2_sortOf_9 (by decide) (fun c8 => ?_) (fun c8 => ?_)
      · replace hM := if_at_pos hM c8
        exact hJ1 hM H locs ls hP hS (lv_sub hl [0] rfl)
      · replace hM := if_at_neg hM c8
        refine lv_iconst (v := (1 : Int32)) hx hb dX2_sortOf_12 (by decide) ?_
        cases hM
        rw [hQQ]
        exact W.iret hx hb hr (fun t ht hW => ⟨⟨_, (), rfl, rfl, by show va_P D vwCl _ t.heap; rw [ht]; exact hP⟩, hS.F ht⟩) hS.2.2 dX2_sortOf_13
noncomputable def BX2_stepToToken_56 (xT_4 : GS) (k6 : Int32 → Option (GS)) (r10 : Int32) (rec14 : Int32 → Option (GS)) (x13 : Int32) : Option (GS) := if (xT_4 0 1) ≤ x13 then (k6 x13) else (if r10 = 0 then (k6 x13) else (chkI x13 200 (bnd1 (MX2_sortOf (xT_4 1 x13.toNatClampNeg)) fun (r18 : Int32) => if r18 = r10 then (nm (x13 + 1) fun (x21 : Int32) => rec14 x21) else (k6 x13))))
noncomputable def BX2_stepToToken_5 (xT : GS) (k3 : Int32 → Option (GS)) (rec23 : Int32 → Option (GS)) (x22 : Int32) : Option (GS) := if (xT 0 1) ≤ x22 then (k3 x22) else (chkI x22 200 (if (xT 1 x22.toNatClampNeg) = (32 : Int32) then (nm (x22 + 1) fun (x27 : Int32) => rec23 x27) else (k3 x22)))
noncomputable def MX2_stepToToken (xT : GS) : Option (GS) := nm (xT 0 4) fun (x1 : Int32) => jn1 (fun (x2 : Int32) => nm (up2 xT 0 3 x2) fun (xT_4 : GS) => jn1 (fun (x5 : Int32) => nm (up2 xT_4 0 4 x5) fun (xT_7 : GS) => some (xT_7)) (fun k6 => if (xT_4 0 1) ≤ x2 then (k6 x2) else (chkI x2 200 (bnd1 (MX2_sortOf (xT_4 1 x2.toNatClampNeg)) fun (r10 : Int32) => nm (x2 + 1) fun (x12 : Int32) => lq1 (BX2_stepToToken_56 xT_4 k6 r10) FU x12)))) (fun k3 => lq1 (BX2_stepToToken_5 xT k3) FU x1)
abbrev rmX2_stepToToken : Room := { frames := 2, cells := 0, slots := 0, locals := 80 }
set_option maxHeartbeats 4000000 in
set_option maxRecDepth 100000 in
theorem ctX2_stepToToken (l : Launch) (D : va_G) (Y : Nat → ClassId) (bT : Nat → Nat) (sz : Nat) (xT : GS) (xTz : GS) (hM : MX2_stepToToken xT = some (xTz)) : Met l yX2_stepToToken wsX2_stepToToken rmX2_stepToToken (pcW [.ref (bT 0)] sz D Y (cText Y bT xT)) (qvW D (cText Y bT xTz) (va_A (cText Y bT xT) sz)) 0 0 (va_A (cText Y bT xT) sz) := by
  refine Met.ofW (cc := cX2_stepToToken) (maxL := 3) (ret := (none)) (by decide) rfl ?_
  intro p e s m args below meth c s₁ B hml hv
  obtain ⟨rfl, hsz, hP, hK, hD0⟩ := hv
  have hx := B.exec
  have hb := B.bytes
  have hr := B.returns
  have hts := atoms_spec (ws := wsX2_stepToToken) B.pre
  have hown : s.vm.findClass RX2 = some m.cls := findClass_of_methodNamed B.named
  have hlocks := B.notSynchronized
  subst hsz
  have hD := hD0.self (sz := s.heap.size)
  generalize hAe : va_A (cText Y bT xT) s.heap.size = A at hD ⊢
  have hA : ∀ q : Nat, s.heap.size ≤ q → A q := fun q h => by rw [← hAe]; exact Or.inr h
  have hS : va_S A s.heap s.heap [] := va_S.rf
  have hi2 : ∀ w ∈ wsX20, w ∈ wsX2_stepToToken := fun w h => List.mem_cons_of_mem _ (List.mem_append_right _ h)
  have hl := lv_entry ([.ref (bT 0)]) (n := 3) (Nat.le_of_ble_eq_true rfl)
  rw [lg_entry_eq]
  generalize (lg_sl ([.ref (bT 0)]) ++ List.replicate (3 - (lg_sl ([.ref (bT 0)])).length) Slot.unset).toArray = ls at hl ⊢
  have hl : lv_has ls 3 [(0, .ref (bT 0))] := hl
  obtain ⟨QQ, hQQ⟩ : ∃ Q : State → Prop, Q = MQ below (qvW D (cText Y bT xTz) A) ([.ref (bT 0)] : List Value).toArray s 0 0 A := ⟨_, rfl⟩
  rw [← hQQ]
  unfold MX2_stepToToken at hM
  suffices hI : ∀ (H : Heap) (locs : List Loc), va_P D vwCl (cText Y bT xT) H → va_S A s.heap H locs → W p l e (headSpec wsX2_stepToToken rmX2_stepToToken).room s m ([.ref (bT 0)] : List Value).toArray below meth c H locs 0 0 QQ (F0 m 0 ls []) from hI _ _ hP hS
  clear hP hS
  intro H locs hP hS
  refine lv_aload_n hx hb dX2_stepToToken_0 rfl (lv_at hl 0 rfl) ?_
  refine va_get hx hb hts hi2 hown hK hP 0 rfl rfl 4 (by decide) (hts (.fieldLink RX2 21 "NightPlots$Text" "tokenEnd" "I") (List.mem_of_getElem? (i := 1) rfl)) (fun _ h9 => h9) rfl dX2_stepToToken_1 ?_
  refine lv_topi (fun x1 ex1 => ?_)
  replace hM := nm_at hM ex1
  refine lv_istore_n (lv' := [(1, .int x1), (0, .ref (bT 0))]) hx hb dX2_stepToToken_4 rfl hl (by decide) rfl (fun ls hl => ?_)
  refine jn1_at (fun (x2 : Int32) => ∀ (H : Heap) (locs : List Loc) (ls : Array Slot), va_P D vwCl (cText Y bT xT) H → va_S A s.heap H locs → lv_has ls 3 [(0, .ref (bT 0)), (1, .int x2)] → W p l e (headSpec wsX2_stepToToken rmX2_stepToToken).room s m ([.ref (bT 0)] : List Value).toArray below meth c H locs 0 0 QQ (F0 m 30 ls [])) hM (fun x2 hM H locs ls hP hS hl => ?_) (fun k3 hJ3 hM => ?_)
  · refine lv_aload_n hx hb dX2_stepToToken_30 rfl (lv_at hl 0 rfl) ?_
    refine lv_iload_n hx hb dX2_stepToToken_31 rfl (lv_at hl 1 rfl) ?_
    refine va_put (ty := .int) hx hb hts hi2 tyX2 tyX2_ok nmX2 hown hK hP (hD.same rfl) hS 0 rfl rfl 3 (by decide) (hts (.fieldLink RX2 34 "NightPlots$Text" "tokenBegin" "I") (List.mem_of_getElem? (i := 4) rfl)) (fun _ h9 => h9) rfl (by decide +kernel) rfl rfl (Nat.le_of_ble_eq_true rfl) dX2_stepToToken_32 (fun H locs hP _ hS => ?_)
    obtain ⟨xT_4, exT_4⟩ : ∃ z : GS, z = (up2 xT 0 3 x2) := ⟨_, rfl⟩
    have hP : va_P D vwCl (cText Y bT xT_4) H := by rw [exT_4]; exact hP
    replace hM := nm_at hM exT_4
    refine lv_iload_n hx hb dX2_stepToToken_35 rfl (lv_at hl 1 rfl) ?_
    refine lv_aload_n hx hb dX2_stepToToken_36 rfl (lv_at hl 0 rfl) ?_
    refine va_get hx hb hts hi2 hown hK hP 0 rfl rfl 1 (by decide) (hts (.fieldLink RX2 15 "NightPlots$Text" "length" "I") (List.mem_of_getElem? (i := 2) rfl)) (fun _ h9 => h9) rfl dX2_stepToToken_37 ?_
    refine jn1_at (fun (x5 : Int32) => ∀ (H : Heap) (locs : List Loc) (ls : Array Slot), va_P D vwCl (cText Y bT xT_4) H → va_S A s.heap H locs → lv_has ls 3 [(0, .ref (bT 0)), (1, .int x5)] → W p l e (headSpec wsX2_stepToToken rmX2_stepToToken).room s m ([.ref (bT 0)] : List Value).toArray below meth c H locs 0 0 QQ (F0 m 87 ls [])) hM (fun x5 hM H locs ls hP hS hl => ?_) (fun k6 hJ6 hM => ?_)
    · refine lv_aload_n hx hb dX2_stepToToken_87 rfl (lv_at hl 0 rfl) ?_
      refine lv_iload_n hx hb dX2_stepToToken_88 rfl (lv_at hl 1 rfl) ?_
      refine va_put (ty := .int) hx hb hts hi2 tyX2 tyX2_ok nmX2 hown hK hP (hD.same rfl) hS 0 rfl rfl 4 (by decide) (hts (.fieldLink RX2 21 "NightPlots$Text" "tokenEnd" "I") (List.mem_of_getElem? (i := 1) rfl)) (fun _ h9 => h9) rfl (by decide +kernel) rfl rfl (Nat.le_of_ble_eq_true rfl) dX2_stepToToken_89 (fun H locs hP _ hS => ?_)
      obtain ⟨xT_7, exT_7⟩ : ∃ z : GS, z = (up2 xT_4 0 4 x5) := ⟨_, rfl⟩
      have hP : va_P D vwCl (cText Y bT xT_7) H := by rw [exT_7]; exact hP
      replace hM := nm_at hM exT_7
      cases hM
      rw [hQQ]
      exact W.vret hx hb hr (fun t ht hW => ⟨⟨(), rfl, trivial, by show va_P D vwCl _ t.heap; rw [ht]; exact hP⟩, hS.F ht⟩) hS.2.2 dX2_stepToToken_92
    · refine lv_icmp_ge (tgt := 87) hx hb dX2_stepToToken_40 (by decide) (fun c8 => ?_) (fun c8 => ?_)
      · replace hM := if_at_pos hM c8
        exact hJ6 x2 hM H locs ls hP hS (lv_sub hl [0, 1] rfl)
      · replace hM := if_at_neg hM c8
        refine lv_aload_n hx hb dX2_stepToToken_43 rfl (lv_at hl 0 rfl) ?_
        refine va_get hx hb hts hi2 hown hK hP 0 rfl rfl 0 (by decide) (hts (.fieldLink RX2 9 "NightPlots$Text" "bytes" "[I") (List.mem_of_getElem? (i := 3) rfl)) (fun _ h9 => h9) rfl dX2_stepToToken_44 ?_
        refine lv_iload_n hx hb dX2_stepToToken_47 rfl (lv_at hl 1 rfl) ?_
        obtain ⟨hi_9, hM⟩ := chkI_at hM
        refine va_iald hx hb hK hP 1 0 rfl rfl hi_9 dX2_stepToToken_48 ?_
        obtain ⟨r10, hc11, hM⟩ := bnd1_at hM
        refine cm_i (w2 := (cText Y bT xT_4)) (va_runS (As := [.int (xT_4 1 x2.toNatClampNeg)]) (rest := []) ⟨hx, hb, hml, hown, hts⟩ (ctX2_sortOf l D Y H.size (xT_4 1 x2.toNatClampNeg) r10 hc11) (cwS 1 hts gX2_stepToToken_X2_sortOf rfl rfl rfl (by decide +kernel) ⟨Nat.le_of_ble_eq_true rfl, Nat.le_of_ble_eq_true rfl⟩) (pcW_S hK hP (hD.same rfl) [] rfl (pc_map pc_nil)) rfl rfl hl.1 rfl (lv_room (Nat.le_of_ble_eq_true rfl)) dX2_stepToToken_49 ⟨Nat.zero_le _, Nat.zero_le _⟩) hP (hD.same rfl) hS hA [] (pc_map pc_nil) (up_old rfl rfl (up_old rfl rfl up_nil)) (fun H locs hP hS => ?_)
        refine lv_istore_n (lv' := [(2, .int r10), (0, .ref (bT 0)), (1, .int x2)]) hx hb dX2_stepToToken_52 rfl hl (by decide) rfl (fun ls hl => ?_)
        obtain ⟨x12, ex12⟩ : ∃ z : Int32, z = (x2 + 1) := ⟨_, rfl⟩
        replace hM := nm_at hM ex12
        refine lv_iinc (v := x12) (lv' := [(1, .int x12), (2, .int r10), (0, .ref (bT 0))]) hx hb dX2_stepToToken_53 hl (k := 2) rfl (by rw [ex12]; rfl) (by decide) rfl (fun ls hl => ?_)
        refine lq1_at (fun (x13 : Int32) => ∀ (H : Heap) (locs : List Loc) (ls : Array Slot), va_P D vwCl (cText Y bT xT_4) H → va_S A s.heap H locs → lv_has ls 3 [(0, .ref (bT 0)), (1, .int x13), (2, .int r10)] → W p l e (headSpec wsX2_stepToToken rmX2_stepToToken).room s m ([.ref (bT 0)] : List Value).toArray below meth c H locs 0 0 QQ (F0 m 56 ls [])) (fun rec14 x13 ih14 hM H locs ls hP hS hl => ?_) FU x12 hM H locs ls hP hS (lv_sub hl [2, 0, 1] rfl)
        unfold BX2_stepToToken_56 at hM
        refine lv_iload_n hx hb dX2_stepToToken_56 rfl (lv_at hl 1 rfl) ?_
        refine lv_aload_n hx hb dX2_stepToToken_57 rfl (lv_at hl 0 rfl) ?_
        refine va_get hx hb hts hi2 hown hK hP 0 rfl rfl 1 (by decide) (hts (.fieldLink RX2 15 "NightPlots$Text" "length" "I") (List.mem_of_getElem? (i := 2) rfl)) (fun _ h9 => h9) rfl dX2_stepToToken_58 ?_
        refine lv_icmp_ge (tgt := 87) hx hb dX2_stepToToken_61 (by decide) (fun c15 => ?_) (fun c15 => ?_)
        · replace hM := if_at_pos hM c15
          exact hJ6 x13 hM H locs ls hP hS (lv_sub hl [0, 1] rfl)
        · replace hM := if_at_neg hM c15
          refine lv_iload_n hx hb dX2_stepToToken_64 rfl (lv_at hl 2 rfl) ?_
          refine lv_if_eq (tgt := 87) hx hb dX2_stepToToken_65 (by decide) (fun c16 => ?_) (fun c16 => ?_)
          · replace hM := if_at_pos hM c16
            exact hJ6 x13 hM H locs ls hP hS (lv_sub hl [0, 1] rfl)
          · replace hM := if_at_neg hM c16
            refine lv_aload_n hx hb dX2_stepToToken_68 rfl (lv_at hl 0 rfl) ?_
            refine va_get hx hb hts hi2 hown hK hP 0 rfl rfl 0 (by decide) (hts (.fieldLink RX2 9 "NightPlots$Text" "bytes" "[I") (List.mem_of_getElem? (i := 3) rfl)) (fun _ h9 => h9) rfl dX2_stepToToken_69 ?_
            refine lv_iload_n hx hb dX2_stepToToken_72 rfl (lv_at hl 1 rfl) ?_
            obtain ⟨hi_17, hM⟩ := chkI_at hM
            refine va_iald hx hb hK hP 1 0 rfl rfl hi_17 dX2_stepToToken_73 ?_
            obtain ⟨r18, hc19, hM⟩ := bnd1_at hM
            refine cm_i (w2 := (cText Y bT xT_4)) (va_runS (As := [.int (xT_4 1 x13.toNatClampNeg)]) (rest := []) ⟨hx, hb, hml, hown, hts⟩ (ctX2_sortOf l D Y H.size (xT_4 1 x13.toNatClampNeg) r18 hc19) (cwS 1 hts gX2_stepToToken_X2_sortOf rfl rfl rfl (by decide +kernel) ⟨Nat.le_of_ble_eq_true rfl, Nat.le_of_ble_eq_true rfl⟩) (pcW_S hK hP (hD.same rfl) [] rfl (pc_map pc_nil)) rfl rfl hl.1 rfl (lv_room (Nat.le_of_ble_eq_true rfl)) dX2_stepToToken_74 ⟨Nat.zero_le _, Nat.zero_le _⟩) hP (hD.same rfl) hS hA [] (pc_map pc_nil) (up_old rfl rfl (up_old rfl rfl up_nil)) (fun H locs hP hS => ?_)
            refine lv_iload_n hx hb dX2_stepToToken_77 rfl (lv_at hl 2 rfl) ?_
            refine lv_icmp_ne (tgt := 87) hx hb dX2_stepToToken_78 (by decide) (fun c20 => ?_) (fun c20 => ?_)
            · replace hM := if_at_neg hM c20
              exact hJ6 x13 hM H locs ls hP hS (lv_sub hl [0, 1] rfl)
            · replace hM := if_at_pos hM c20
              obtain ⟨x21, ex21⟩ : ∃ z : Int32, z = (x13 + 1) := ⟨_, rfl⟩
              replace hM := nm_at hM ex21
              refine lv_iinc (v := x21) (lv' := [(1, .int x21), (0, .ref (bT 0)), (2, .int r10)]) hx hb dX2_stepToToken_81 hl (k := 1) rfl (by rw [ex21]; rfl) (by decide) rfl (fun ls hl => ?_)
              refine lv_goto (tgt := 56) hx hb dX2_stepToToken_84 (by decide) ?_
              exact ih14 x21 hM H locs ls hP hS (lv_sub hl [1, 0, 2] rfl)
  · refine lq1_at (fun (x22 : Int32) => ∀ (H : Heap) (locs : List Loc) (ls : Array Slot), va_P D vwCl (cText Y bT xT) H → va_S A s.heap H locs → lv_has ls 3 [(0, .ref (bT 0)), (1, .int x22)] → W p l e (headSpec wsX2_stepToToken rmX2_stepToToken).room s m ([.ref (bT 0)] : List Value).toArray below meth c H locs 0 0 QQ (F0 m 5 ls [])) (fun rec23 x22 ih23 hM H locs ls hP hS hl => ?_) FU x1 hM H locs ls hP hS (lv_sub hl [1, 0] rfl)
    unfold BX2_stepToToken_5 at hM
    refine lv_iload_n hx hb dX2_stepToToken_5 rfl (lv_at hl 1 rfl) ?_
    refine lv_aload_n hx hb dX2_stepToToken_6 rfl (lv_at hl 0 rfl) ?_
    refine va_get hx hb hts hi2 hown hK hP 0 rfl rfl 1 (by decide) (hts (.fieldLink RX2 15 "NightPlots$Text" "length" "I") (List.mem_of_getElem? (i := 2) rfl)) (fun _ h9 => h9) rfl dX2_stepToToken_7 ?_
    refine lv_icmp_ge (tgt := 30) hx hb dX2_stepToToken_10 (by decide) (fun c24 => ?_) (fun c24 => ?_)
    · replace hM := if_at_pos hM c24
      exact hJ3 x22 hM H locs ls hP hS (lv_sub hl [0, 1] rfl)
    · replace hM := if_at_neg hM c24
      refine lv_aload_n hx hb dX2_stepToToken_13 rfl (lv_at hl 0 rfl) ?_
      refine va_get hx hb hts hi2 hown hK hP 0 rfl rfl 0 (by decide) (hts (.fieldLink RX2 9 "NightPlots$Text" "bytes" "[I") (List.mem_of_getElem? (i := 3) rfl)) (fun _ h9 => h9) rfl dX2_stepToToken_14 ?_
      refine lv_iload_n hx hb dX2_stepToToken_17 rfl (lv_at hl 1 rfl) ?_
      obtain ⟨hi_25, hM⟩ := chkI_at hM
      refine va_iald hx hb hK hP 1 0 rfl rfl hi_25 dX2_stepToToken_18 ?_
      refine lv_bipush (v := (32 : Int32)) hx hb dX2_stepToToken_19 (by decide) ?_
      refine lv_icmp_ne (tgt := 30) hx hb dX2_stepToToken_21 (by decide) (fun c26 => ?_) (fun c26 => ?_)
      · replace hM := if_at_neg hM c26
        exact hJ3 x22 hM H locs ls hP hS (lv_sub hl [0, 1] rfl)
      · replace hM := if_at_pos hM c26
        obtain ⟨x27, ex27⟩ : ∃ z : Int32, z = (x22 + 1) := ⟨_, rfl⟩
        replace hM := nm_at hM ex27
        refine lv_iinc (v := x27) (lv' := [(1, .int x27), (0, .ref (bT 0))]) hx hb dX2_stepToToken_24 hl (k := 1) rfl (by rw [ex27]; rfl) (by decide) rfl (fun ls hl => ?_)
        refine lv_goto (tgt := 5) hx hb dX2_stepToToken_27 (by decide) ?_
        exact ih23 x27 hM H locs ls hP hS (lv_sub hl [1, 0] rfl)
noncomputable def BX2_readNumber_54 (xT_1 : GS) (k13 : Int32 → Option (Int32 × GS)) (rec21 : Int32 → Int32 → Option (Int32 × GS)) (x19 : Int32) (x20 : Int32) : Option (Int32 × GS) := if (xT_1 0 4) ≤ x20 then (k13 x19) else (chkI x20 200 (nm ((((10 : Int32) * x19) + (xT_1 1 x20.toNatClampNeg)) - (48 : Int32)) fun (x24 : Int32) => nm (x20 + 1) fun (x25 : Int32) => rec21 x24 x25))
noncomputable def MX2_readNumber (xT : GS) (i1 : Int32) (i2 : Int32) (i3 : Int32) : Option (Int32 × GS) := bnd1 (MX2_stepToToken xT) fun (xT_1 : GS) => nm ((xT_1 0 4) - (xT_1 0 3)) fun (x3 : Int32) => jn0 (some ((-1 : Int32), xT_1)) (fun k4 => if x3 < (1 : Int32) then (k4) else (if i3 < x3 then (k4) else (chkI (xT_1 0 3) 200 (bnd1 (MX2_sortOf (xT_1 1 (xT_1 0 3).toNatClampNeg)) fun (r8 : Int32) => if r8 = (2 : Int32) then (nm (xT_1 0 3) fun (x11 : Int32) => jn1 (fun (x12 : Int32) => jn1 (fun (x14 : Int32) => some (x14, xT_1)) (fun k15 => jn0 (k15 (-1 : Int32)) (fun k16 => if x12 < i1 then (k16) else (if x12 ≤ i2 then (k15 x12) else (k16))))) (fun k13 => lq2 (BX2_readNumber_54 xT_1 k13) FU (0 : Int32) x11)) else (k4)))))
abbrev rmX2_readNumber : Room := { frames := 3, cells := 0, slots := 0, locals := 120 }
set_option maxHeartbeats 4000000 in
set_option maxRecDepth 100000 in
theorem ctX2_readNumber (l : Launch) (D : va_G) (Y : Nat → ClassId) (bT : Nat → Nat) (sz : Nat) (xT : GS) (i1 : Int32) (i2 : Int32) (i3 : Int32) (rr : Int32) (xTz : GS) (hM : MX2_readNumber xT i1 i2 i3 = some (rr, xTz)) : Met l yX2_readNumber wsX2_readNumber rmX2_readNumber (pcW [.ref (bT 0), .int i1, .int i2, .int i3] sz D Y (cText Y bT xT)) (qiW rr D (cText Y bT xTz) (va_A (cText Y bT xT) sz)) 0 0 (va_A (cText Y bT xT) sz) := by
  refine Met.ofW (cc := cX2_readNumber) (maxL := 7) (ret := (some .int)) (by decide) rfl ?_
  intro p e s m args below meth c s₁ B hml hv
  obtain ⟨rfl, hsz, hP, hK, hD0⟩ := hv
  have hx := B.exec
  have hb := B.bytes
  have hr := B.returns
  have hts := atoms_spec (ws := wsX2_readNumber) B.pre
  have hown : s.vm.findClass RX2 = some m.cls := findClass_of_methodNamed B.named
  have hlocks := B.notSynchronized
  subst hsz
  have hD := hD0.self (sz := s.heap.size)
  generalize hAe : va_A (cText Y bT xT) s.heap.size = A at hD ⊢
  have hA : ∀ q : Nat, s.heap.size ≤ q → A q := fun q h => by rw [← hAe]; exact Or.inr h
  have hS : va_S A s.heap s.heap [] := va_S.rf
  have hi2 : ∀ w ∈ wsX20, w ∈ wsX2_readNumber := fun w h => List.mem_cons_of_mem _ (List.mem_append_right _ h)
  have hl := lv_entry ([.ref (bT 0), .int i1, .int i2, .int i3]) (n := 7) (Nat.le_of_ble_eq_true rfl)
  rw [lg_entry_eq]
  generalize (lg_sl ([.ref (bT 0), .int i1, .int i2, .int i3]) ++ List.replicate (7 - (lg_sl ([.ref (bT 0), .int i1, .int i2, .int i3])).length) Slot.unset).toArray = ls at hl ⊢
  have hl : lv_has ls 7 [(0, .ref (bT 0)), (1, .int i1), (2, .int i2), (3, .int i3)] := hl
  obtain ⟨QQ, hQQ⟩ : ∃ Q : State → Prop, Q = MQ below (qiW rr D (cText Y bT xTz) A) ([.ref (bT 0), .int i1, .int i2, .int i3] : List Value).toArray s 0 0 A := ⟨_, rfl⟩
  rw [← hQQ]
  unfold MX2_readNumber at hM
  suffices hI : ∀ (H : Heap) (locs : List Loc), va_P D vwCl (cText Y bT xT) H → va_S A s.heap H locs → W p l e (headSpec wsX2_readNumber rmX2_readNumber).room s m ([.ref (bT 0), .int i1, .int i2, .int i3] : List Value).toArray below meth c H locs 0 0 QQ (F0 m 0 ls []) from hI _ _ hP hS
  clear hP hS
  intro H locs hP hS
  refine lv_aload_n hx hb dX2_readNumber_0 rfl (lv_at hl 0 rfl) ?_
  obtain ⟨xT_1, hc2, hM⟩ := bnd1_at hM
  refine co_v (va_runV (As := []) (rest := []) ⟨hx, hb, hml, hown, hts⟩ (ctX2_stepToToken l D Y bT H.size xT xT_1 hc2) (cwV 0 hts gX2_readNumber_X2_stepToToken rfl rfl rfl (by decide +kernel) ⟨Nat.le_of_ble_eq_true rfl, Nat.le_of_ble_eq_true rfl⟩) (pcW_V0 (ci := 2) (q0 := 0) hK hP (hD.same rfl) rfl rfl) rfl rfl hl.1 rfl (lv_room (Nat.le_of_ble_eq_true rfl)) dX2_readNumber_1 ⟨Nat.zero_le _, Nat.zero_le _⟩) (hD.same rfl) hS hA (fun H locs hP hS => ?_)
  refine lv_aload_n hx hb dX2_readNumber_4 rfl (lv_at hl 0 rfl) ?_
  refine va_get hx hb hts hi2 hown hK hP 0 rfl rfl 4 (by decide) (hts (.fieldLink RX2 21 "NightPlots$Text" "tokenEnd" "I") (List.mem_of_getElem? (i := 1) rfl)) (fun _ h9 => h9) rfl dX2_readNumber_5 ?_
  refine lv_aload_n hx hb dX2_readNumber_8 rfl (lv_at hl 0 rfl) ?_
  refine va_get hx hb hts hi2 hown hK hP 0 rfl rfl 3 (by decide) (hts (.fieldLink RX2 34 "NightPlots$Text" "tokenBegin" "I") (List.mem_of_getElem? (i := 2) rfl)) (fun _ h9 => h9) rfl dX2_readNumber_9 ?_
  refine lv_isub hx hb dX2_readNumber_12 ?_
  refine lv_topi (fun x3 ex3 => ?_)
  replace hM := nm_at hM ex3
  refine lv_istore (lv' := [(4, .int x3), (0, .ref (bT 0)), (1, .int i1), (2, .int i2), (3, .int i3)]) hx hb dX2_readNumber_13 hl (by decide) rfl (fun ls hl => ?_)
  refine lv_iload hx hb dX2_readNumber_15 (lv_at hl 0 rfl) ?_
  refine lv_iconst (v := (1 : Int32)) hx hb dX2_readNumber_17 (by decide) ?_
  refine jn0_at (∀ (H : Heap) (locs : List Loc) (ls : Array Slot), va_P D vwCl (cText Y bT xT_1) H → va_S A s.heap H locs → lv_has ls 7 [] → W p l e (headSpec wsX2_readNumber rmX2_readNumber).room s m ([.ref (bT 0), .int i1, .int i2, .int i3] : List Value).toArray below meth c H locs 0 0 QQ (F0 m 43 ls [])) hM (fun  hM H locs ls hP hS hl => ?_) (fun k4 hJ4 hM => ?_)
  · refine lv_iconst (v := (-1 : Int32)) hx hb dX2_readNumber_43 (by decide) ?_
    cases hM
    rw [hQQ]
    exact W.iret hx hb hr (fun t ht hW => ⟨⟨_, (), rfl, rfl, by show va_P D vwCl _ t.heap; rw [ht]; exact hP⟩, hS.F ht⟩) hS.2.2 dX2_readNumber_44
  · refine lv_icmp_lt (tgt := 43) hx hb dX2_readNumber_18 (by decide) (fun c5 => ?_) (fun c5 => ?_)
    · replace hM := if_at_pos hM c5
      exact hJ4 hM H locs ls hP hS (lv_sub hl [] rfl)
    · replace hM := if_at_neg hM c5
      refine lv_iload hx hb dX2_readNumber_21 (lv_at hl 0 rfl) ?_
      refine lv_iload_n hx hb dX2_readNumber_23 rfl (lv_at hl 4 rfl) ?_
      refine lv_icmp_gt (tgt := 43) hx hb dX2_readNumber_24 (by decide) (fun c6 => ?_) (fun c6 => ?_)
      · replace hM := if_at_pos hM c6
        exact hJ4 hM H locs ls hP hS (lv_sub hl [] rfl)
      · replace hM := if_at_neg hM c6
        refine lv_aload_n hx hb dX2_readNumber_27 rfl (lv_at hl 1 rfl) ?_
        refine va_get hx hb hts hi2 hown hK hP 0 rfl rfl 0 (by decide) (hts (.fieldLink RX2 9 "NightPlots$Text" "bytes" "[I") (List.mem_of_getElem? (i := 3) rfl)) (fun _ h9 => h9) rfl dX2_readNumber_28 ?_
        refine lv_aload_n hx hb dX2_readNumber_31 rfl (lv_at hl 1 rfl) ?_
        refine va_get hx hb hts hi2 hown hK hP 0 rfl rfl 3 (by decide) (hts (.fieldLink RX2 34 "NightPlots$Text" "tokenBegin" "I") (List.mem_of_getElem? (i := 2) rfl)) (fun _ h9 => h9) rfl dX2_readNumber_32 ?_
        obtain ⟨hi_7, hM⟩ := chkI_at hM
        refine va_iald hx hb hK hP 1 0 rfl rfl hi_7 dX2_readNumber_35 ?_
        obtain ⟨r8, hc9, hM⟩ := bnd1_at hM
        refine cm_i (w2 := (cText Y bT xT_1)) (va_runS (As := [.int (xT_1 1 (xT_1 0 3).toNatClampNeg)]) (rest := []) ⟨hx, hb, hml, hown, hts⟩ (ctX2_sortOf l D Y H.size (xT_1 1 (xT_1 0 3).toNatClampNeg) r8 hc9) (cwS 1 hts gX2_readNumber_X2_sortOf rfl rfl rfl (by decide +kernel) ⟨Nat.le_of_ble_eq_true rfl, Nat.le_of_ble_eq_true rfl⟩) (pcW_S hK hP (hD.same rfl) [] rfl (pc_map pc_nil)) rfl rfl hl.1 rfl (lv_room (Nat.le_of_ble_eq_true rfl)) dX2_readNumber_36 ⟨Nat.zero_le _, Nat.zero_le _⟩) hP (hD.same rfl) hS hA [] (pc_map pc_nil) (up_old rfl rfl (up_old rfl rfl up_nil)) (fun H locs hP hS => ?_)
        refine lv_iconst (v := (2 : Int32)) hx hb dX2_readNumber_39 (by decide) ?_
        refine lv_icmp_eq (tgt := 45) hx hb dX2_readNumber_40 (by decide) (fun c10 => ?_) (fun c10 => ?_)
        · replace hM := if_at_pos hM c10
          refine lv_iconst (v := (0 : Int32)) hx hb dX2_readNumber_45 (by decide) ?_
          refine lv_istore (lv' := [(5, .int (0 : Int32)), (4, .int x3), (0, .ref (bT 0)), (1, .int i1), (2, .int i2), (3, .int i3)]) hx hb dX2_readNumber_46 hl (by decide) rfl (fun ls hl => ?_)
          refine lv_aload_n hx hb dX2_readNumber_48 rfl (lv_at hl 2 rfl) ?_
          refine va_get hx hb hts hi2 hown hK hP 0 rfl rfl 3 (by decide) (hts (.fieldLink RX2 34 "NightPlots$Text" "tokenBegin" "I") (List.mem_of_getElem? (i := 2) rfl)) (fun _ h9 => h9) rfl dX2_readNumber_49 ?_
          refine lv_topi (fun x11 ex11 => ?_)
          replace hM := nm_at hM ex11
          refine lv_istore (lv' := [(6, .int x11), (5, .int (0 : Int32)), (4, .int x3), (0, .ref (bT 0)), (1, .int i1), (2, .int i2), (3, .int i3)]) hx hb dX2_readNumber_52 hl (by decide) rfl (fun ls hl => ?_)
          refine jn1_at (fun (x12 : Int32) => ∀ (H : Heap) (locs : List Loc) (ls : Array Slot), va_P D vwCl (cText Y bT xT_1) H → va_S A s.heap H locs → lv_has ls 7 [(1, .int i1), (2, .int i2), (5, .int x12)] → W p l e (headSpec wsX2_readNumber rmX2_readNumber).room s m ([.ref (bT 0), .int i1, .int i2, .int i3] : List Value).toArray below meth c H locs 0 0 QQ (F0 m 87 ls [])) hM (fun x12 hM H locs ls hP hS hl => ?_) (fun k13 hJ13 hM => ?_)
          · refine lv_iload hx hb dX2_readNumber_87 (lv_at hl 2 rfl) ?_
            refine lv_iload_n hx hb dX2_readNumber_89 rfl (lv_at hl 0 rfl) ?_
            refine jn1_at (fun (x14 : Int32) => ∀ (H : Heap) (locs : List Loc) (ls : Array Slot), va_P D vwCl (cText Y bT xT_1) H → va_S A s.heap H locs → lv_has ls 7 [] → W p l e (headSpec wsX2_readNumber rmX2_readNumber).room s m ([.ref (bT 0), .int i1, .int i2, .int i3] : List Value).toArray below meth c H locs 0 0 QQ (F0 m 105 ls [.int x14])) hM (fun x14 hM H locs ls hP hS hl => ?_) (fun k15 hJ15 hM => ?_)
            · cases hM
              rw [hQQ]
              exact W.iret hx hb hr (fun t ht hW => ⟨⟨_, (), rfl, rfl, by show va_P D vwCl _ t.heap; rw [ht]; exact hP⟩, hS.F ht⟩) hS.2.2 dX2_readNumber_105
            · refine jn0_at (∀ (H : Heap) (locs : List Loc) (ls : Array Slot), va_P D vwCl (cText Y bT xT_1) H → va_S A s.heap H locs → lv_has ls 7 [] → W p l e (headSpec wsX2_readNumber rmX2_readNumber).room s m ([.ref (bT 0), .int i1, .int i2, .int i3] : List Value).toArray below meth c H locs 0 0 QQ (F0 m 99 ls [])) hM (fun  hM H locs ls hP hS hl => ?_) (fun k16 hJ16 hM => ?_)
              · refine lv_iconst (v := (-1 : Int32)) hx hb dX2_readNumber_99 (by decide) ?_
                refine lv_goto (tgt := 105) hx hb dX2_readNumber_100 (by decide) ?_
                exact hJ15 (-1 : Int32) hM H locs ls hP hS (lv_sub hl [] rfl)
              · refine lv_icmp_lt (tgt := 99) hx hb dX2_readNumber_90 (by decide) (fun c17 => ?_) (fun c17 => ?_)
                · replace hM := if_at_pos hM c17
                  exact hJ16 hM H locs ls hP hS (lv_sub hl [] rfl)
                · replace hM := if_at_neg hM c17
                  refine lv_iload hx hb dX2_readNumber_93 (lv_at hl 2 rfl) ?_
                  refine lv_iload_n hx hb dX2_readNumber_95 rfl (lv_at hl 1 rfl) ?_
                  refine lv_icmp_le (tgt := 103) hx hb dX2_readNumber_96 (by decide) (fun c18 => ?_) (fun c18 => ?_)
                  · replace hM := if_at_pos hM c18
                    refine lv_iload hx hb dX2_readNumber_103 (lv_at hl 2 rfl) ?_
                    exact hJ15 x12 hM H locs ls hP hS (lv_sub hl [] rfl)
                  · replace hM := if_at_neg hM c18
                    exact hJ16 hM H locs ls hP hS (lv_sub hl [] rfl)
          · refine lq2_at (fun (x19 : Int32) (x20 : Int32) => ∀ (H : Heap) (locs : List Loc) (ls : Array Slot), va_P D vwCl (cText Y bT xT_1) H → va_S A s.heap H locs → lv_has ls 7 [(0, .ref (bT 0)), (1, .int i1), (2, .int i2), (5, .int x19), (6, .int x20)] → W p l e (headSpec wsX2_readNumber rmX2_readNumber).room s m ([.ref (bT 0), .int i1, .int i2, .int i3] : List Value).toArray below meth c H locs 0 0 QQ (F0 m 54 ls [])) (fun rec21 x19 x20 ih21 hM H locs ls hP hS hl => ?_) FU (0 : Int32) x11 hM H locs ls hP hS (lv_sub hl [3, 4, 5, 1, 0] rfl)
            unfold BX2_readNumber_54 at hM
            refine lv_iload hx hb dX2_readNumber_54 (lv_at hl 4 rfl) ?_
            refine lv_aload_n hx hb dX2_readNumber_56 rfl (lv_at hl 0 rfl) ?_
            refine va_get hx hb hts hi2 hown hK hP 0 rfl rfl 4 (by decide) (hts (.fieldLink RX2 21 "NightPlots$Text" "tokenEnd" "I") (List.mem_of_getElem? (i := 1) rfl)) (fun _ h9 => h9) rfl dX2_readNumber_57 ?_
            refine lv_icmp_ge (tgt := 87) hx hb dX2_readNumber_60 (by decide) (fun c22 => ?_) (fun c22 => ?_)
            · replace hM := if_at_pos hM c22
              exact hJ13 x19 hM H locs ls hP hS (lv_sub hl [1, 2, 3] rfl)
            · replace hM := if_at_neg hM c22
              refine lv_bipush (v := (10 : Int32)) hx hb dX2_readNumber_63 (by decide) ?_
              refine lv_iload hx hb dX2_readNumber_65 (lv_at hl 3 rfl) ?_
              refine lv_imul hx hb dX2_readNumber_67 ?_
              refine lv_aload_n hx hb dX2_readNumber_68 rfl (lv_at hl 0 rfl) ?_
              refine va_get hx hb hts hi2 hown hK hP 0 rfl rfl 0 (by decide) (hts (.fieldLink RX2 9 "NightPlots$Text" "bytes" "[I") (List.mem_of_getElem? (i := 3) rfl)) (fun _ h9 => h9) rfl dX2_readNumber_69 ?_
              refine lv_iload hx hb dX2_readNumber_72 (lv_at hl 4 rfl) ?_
              obtain ⟨hi_23, hM⟩ := chkI_at hM
              refine va_iald hx hb hK hP 1 0 rfl rfl hi_23 dX2_readNumber_74 ?_
              refine lv_iadd hx hb dX2_readNumber_75 ?_
              refine lv_bipush (v := (48 : Int32)) hx hb dX2_readNumber_76 (by decide) ?_
              refine lv_isub hx hb dX2_readNumber_78 ?_
              refine lv_topi (fun x24 ex24 => ?_)
              replace hM := nm_at hM ex24
              refine lv_istore (lv' := [(5, .int x24), (0, .ref (bT 0)), (1, .int i1), (2, .int i2), (6, .int x20)]) hx hb dX2_readNumber_79 hl (by decide) rfl (fun ls hl => ?_)
              obtain ⟨x25, ex25⟩ : ∃ z : Int32, z = (x20 + 1) := ⟨_, rfl⟩
              replace hM := nm_at hM ex25
              refine lv_iinc (v := x25) (lv' := [(6, .int x25), (5, .int x24), (0, .ref (bT 0)), (1, .int i1), (2, .int i2)]) hx hb dX2_readNumber_81 hl (k := 4) rfl (by rw [ex25]; rfl) (by decide) rfl (fun ls hl => ?_)
              refine lv_goto (tgt := 54) hx hb dX2_readNumber_84 (by decide) ?_
              exact ih21 x24 x25 hM H locs ls hP hS (lv_sub hl [2, 3, 4, 1, 0] rfl)
        · replace hM := if_at_neg hM c10
          exact hJ4 hM H locs ls hP hS (lv_sub hl [] rfl)
noncomputable def BX2_isWord_20 (nQ : Nat) (k2 : Option (Int32)) (xT : GS) (fQ : Nat → Int32) (k3 : Option (Int32)) (rec5 : Int32 → Option (Int32)) (x4 : Int32) : Option (Int32) := if (Int32.ofNat nQ) ≤ x4 then (k2) else (chkI ((xT 0 3) + x4) 200 (chkI x4 nQ (if (xT 1 ((xT 0 3) + x4).toNatClampNeg) = (fQ x4.toNatClampNeg &&& 255) then (nm (x4 + 1) fun (x10 : Int32) => rec5 x10) else (k3))))
noncomputable def MX2_isWord (nQ : Nat) (fQ : Nat → Int32) (xT : GS) : Option (Int32) := if ((xT 0 4) - (xT 0 3)) = (Int32.ofNat nQ) then (jn0 (some ((1 : Int32))) (fun k2 => jn0 (some ((0 : Int32))) (fun k3 => lq1 (BX2_isWord_20 nQ k2 xT fQ k3) FU (0 : Int32)))) else (some ((0 : Int32)))
abbrev rmX2_isWord : Room := { frames := 5, cells := 0, slots := 0, locals := 200 }
set_option maxHeartbeats 4000000 in
set_option maxRecDepth 100000 in
theorem ctX2_isWord (l : Launch) (D : va_G) (Y : Nat → ClassId) (bT : Nat → Nat) (qQ vQ nQ : Nat) (fQ : Nat → Int32) (sz : Nat) (xT : GS) (rr : Int32) (hM : MX2_isWord nQ fQ xT = some (rr)) : Met l yX2_isWord wsX2_isWord rmX2_isWord (pcE [.ref (bT 0), .ref qQ] sz D Y (cText Y bT xT) (sE qQ vQ nQ fQ (va_A (cText Y bT xT) sz))) (qiW rr D (cText Y bT xT) (va_A (cText Y bT xT) sz)) 0 0 (va_A (cText Y bT xT) sz) := by
  refine Met.ofW (cc := cX2_isWord) (maxL := 3) (ret := (some .boolean)) (by decide) rfl ?_
  intro p e s m args below meth c s₁ B hml hv
  obtain ⟨⟨rfl, hsz, hP, hK, hD0⟩, hE⟩ := hv
  have hx := B.exec
  have hb := B.bytes
  have hr := B.returns
  have hts := atoms_spec (ws := wsX2_isWord) B.pre
  have hown : s.vm.findClass RX2 = some m.cls := findClass_of_methodNamed B.named
  have hlocks := B.notSynchronized
  subst hsz
  have hD := hD0.self (sz := s.heap.size)
  generalize hAe : va_A (cText Y bT xT) s.heap.size = A at hD hE ⊢
  have hA : ∀ q : Nat, s.heap.size ≤ q → A q := fun q h => by rw [← hAe]; exact Or.inr h
  have hS : va_S A s.heap s.heap [] := va_S.rf
  have hi2 : ∀ w ∈ wsX20, w ∈ wsX2_isWord := fun w h => List.mem_cons_of_mem _ (List.mem_append_right _ h)
  have hl := lv_entry ([.ref (bT 0), .ref qQ]) (n := 3) (Nat.le_of_ble_eq_true rfl)
  rw [lg_entry_eq]
  generalize (lg_sl ([.ref (bT 0), .ref qQ]) ++ List.replicate (3 - (lg_sl ([.ref (bT 0), .ref qQ])).length) Slot.unset).toArray = ls at hl ⊢
  have hl : lv_has ls 3 [(0, .ref (bT 0)), (1, .ref qQ)] := hl
  obtain ⟨QQ, hQQ⟩ : ∃ Q : State → Prop, Q = MQ below (qiW rr D (cText Y bT xT) A) ([.ref (bT 0), .ref qQ] : List Value).toArray s 0 0 A := ⟨_, rfl⟩
  rw [← hQQ]
  unfold MX2_isWord at hM
  suffices hI : ∀ (H : Heap) (locs : List Loc), va_P D vwCl (cText Y bT xT) H → va_S A s.heap H locs → W p l e (headSpec wsX2_isWord rmX2_isWord).room s m ([.ref (bT 0), .ref qQ] : List Value).toArray below meth c H locs 0 0 QQ (F0 m 0 ls []) from hI _ _ hP hS
  clear hP hS
  intro H locs hP hS
  refine lv_aload_n hx hb dX2_isWord_0 rfl (lv_at hl 0 rfl) ?_
  refine va_get hx hb hts hi2 hown hK hP 0 rfl rfl 4 (by decide) (hts (.fieldLink RX2 21 "NightPlots$Text" "tokenEnd" "I") (List.mem_of_getElem? (i := 1) rfl)) (fun _ h9 => h9) rfl dX2_isWord_1 ?_
  refine lv_aload_n hx hb dX2_isWord_4 rfl (lv_at hl 0 rfl) ?_
  refine va_get hx hb hts hi2 hown hK hP 0 rfl rfl 3 (by decide) (hts (.fieldLink RX2 34 "NightPlots$Text" "tokenBegin" "I") (List.mem_of_getElem? (i := 2) rfl)) (fun _ h9 => h9) rfl dX2_isWord_5 ?_
  refine lv_isub hx hb dX2_isWord_8 ?_
  refine lv_aload_n hx hb dX2_isWord_9 rfl (lv_at hl 1 rfl) ?_
  refine cm_i (w2 := (cText Y bT xT)) (va_runV (As := []) (rest := [.int ((xT 0 4) - (xT 0 3))]) ⟨hx, hb, hml, hown, hts⟩ (ctJ0_length_8abf5 l D Y qQ vQ nQ fQ H.size) (cwV 0 hts gX2_isWord_J0_length_8abf5 rfl rfl rfl (by decide +kernel) ⟨Nat.le_of_ble_eq_true rfl, Nat.le_of_ble_eq_true rfl⟩) ⟨(pcE_S (fun U g mk a h => sE_blind U g mk a h) (fun U hU hW => sE_go hE hS (in_0 hS hA) hU hW.alike) (pcW_0 hK)).1, vk_recv1 hE.1 hS, (pcE_S (fun U g mk a h => sE_blind U g mk a h) (fun U hU hW => sE_go hE hS (in_0 hS hA) hU hW.alike) (pcW_0 (As := .ref qQ :: []) hK)).2⟩ rfl rfl hl.1 rfl (lv_room (Nat.le_of_ble_eq_true rfl)) dX2_isWord_10 ⟨Nat.zero_le _, Nat.zero_le _⟩) hP (hD.same rfl) hS hA [] rfl (up_old rfl rfl (up_old rfl rfl up_nil)) (fun H locs hP hS => ?_)
  refine lv_icmp_eq (tgt := 18) hx hb dX2_isWord_13 (by decide) (fun c1 => ?_) (fun c1 => ?_)
  · replace hM := if_at_pos hM c1
    refine lv_iconst (v := (0 : Int32)) hx hb dX2_isWord_18 (by decide) ?_
    refine lv_istore_n (lv' := [(2, .int (0 : Int32)), (0, .ref (bT 0)), (1, .ref qQ)]) hx hb dX2_isWord_19 rfl hl (by decide) rfl (fun ls hl => ?_)
    refine jn0_at (∀ (H : Heap) (locs : List Loc) (ls : Array Slot), va_P D vwCl (cText Y bT xT) H → va_S A s.heap H locs → lv_has ls 3 [] → W p l e (headSpec wsX2_isWord rmX2_isWord).room s m ([.ref (bT 0), .ref qQ] : List Value).toArray below meth c H locs 0 0 QQ (F0 m 55 ls [])) hM (fun  hM H locs ls hP hS hl => ?_) (fun k2 hJ2 hM => ?_)
    · refine lv_iconst (v := (1 : Int32)) hx hb dX2_isWord_55 (by decide) ?_
      cases hM
      rw [hQQ]
      exact W.zret (ty := .boolean) hx hb hr rfl (fun t ht hW => ⟨⟨_, (), rfl, rfl, by show va_P D vwCl _ t.heap; rw [ht]; exact hP⟩, hS.F ht⟩) hS.2.2 dX2_isWord_56
    · refine jn0_at (∀ (H : Heap) (locs : List Loc) (ls : Array Slot), va_P D vwCl (cText Y bT xT) H → va_S A s.heap H locs → lv_has ls 3 [] → W p l e (headSpec wsX2_isWord rmX2_isWord).room s m ([.ref (bT 0), .ref qQ] : List Value).toArray below meth c H locs 0 0 QQ (F0 m 47 ls [])) hM (fun  hM H locs ls hP hS hl => ?_) (fun k3 hJ3 hM => ?_)
      · refine lv_iconst (v := (0 : Int32)) hx hb dX2_isWord_47 (by decide) ?_
        cases hM
        rw [hQQ]
        exact W.zret (ty := .boolean) hx hb hr rfl (fun t ht hW => ⟨⟨_, (), rfl, rfl, by show va_P D vwCl _ t.heap; rw [ht]; exact hP⟩, hS.F ht⟩) hS.2.2 dX2_isWord_48
      · refine lq1_at (fun (x4 : Int32) => ∀ (H : Heap) (locs : List Loc) (ls : Array Slot), va_P D vwCl (cText Y bT xT) H → va_S A s.heap H locs → lv_has ls 3 [(0, .ref (bT 0)), (1, .ref qQ), (2, .int x4)] → W p l e (headSpec wsX2_isWord rmX2_isWord).room s m ([.ref (bT 0), .ref qQ] : List Value).toArray below meth c H locs 0 0 QQ (F0 m 20 ls [])) (fun rec5 x4 ih5 hM H locs ls hP hS hl => ?_) FU (0 : Int32) hM H locs ls hP hS (lv_sub hl [1, 2, 0] rfl)
        unfold BX2_isWord_20 at hM
        refine lv_iload_n hx hb dX2_isWord_20 rfl (lv_at hl 2 rfl) ?_
        refine lv_aload_n hx hb dX2_isWord_21 rfl (lv_at hl 1 rfl) ?_
        refine cm_i (w2 := (cText Y bT xT)) (va_runV (As := []) (rest := [.int x4]) ⟨hx, hb, hml, hown, hts⟩ (ctJ0_length_8abf5 l D Y qQ vQ nQ fQ H.size) (cwV 0 hts gX2_isWord_J0_length_8abf5 rfl rfl rfl (by decide +kernel) ⟨Nat.le_of_ble_eq_true rfl, Nat.le_of_ble_eq_true rfl⟩) ⟨(pcE_S (fun U g mk a h => sE_blind U g mk a h) (fun U hU hW => sE_go hE hS (in_0 hS hA) hU hW.alike) (pcW_0 hK)).1, vk_recv1 hE.1 hS, (pcE_S (fun U g mk a h => sE_blind U g mk a h) (fun U hU hW => sE_go hE hS (in_0 hS hA) hU hW.alike) (pcW_0 (As := .ref qQ :: []) hK)).2⟩ rfl rfl hl.1 rfl (lv_room (Nat.le_of_ble_eq_true rfl)) dX2_isWord_22 ⟨Nat.zero_le _, Nat.zero_le _⟩) hP (hD.same rfl) hS hA [] rfl (up_old rfl rfl (up_old rfl rfl up_nil)) (fun H locs hP hS => ?_)
        refine lv_icmp_ge (tgt := 55) hx hb dX2_isWord_25 (by decide) (fun c6 => ?_) (fun c6 => ?_)
        · replace hM := if_at_pos hM c6
          exact hJ2 hM H locs ls hP hS (lv_sub hl [] rfl)
        · replace hM := if_at_neg hM c6
          refine lv_aload_n hx hb dX2_isWord_28 rfl (lv_at hl 0 rfl) ?_
          refine va_get hx hb hts hi2 hown hK hP 0 rfl rfl 0 (by decide) (hts (.fieldLink RX2 9 "NightPlots$Text" "bytes" "[I") (List.mem_of_getElem? (i := 3) rfl)) (fun _ h9 => h9) rfl dX2_isWord_29 ?_
          refine lv_aload_n hx hb dX2_isWord_32 rfl (lv_at hl 0 rfl) ?_
          refine va_get hx hb hts hi2 hown hK hP 0 rfl rfl 3 (by decide) (hts (.fieldLink RX2 34 "NightPlots$Text" "tokenBegin" "I") (List.mem_of_getElem? (i := 2) rfl)) (fun _ h9 => h9) rfl dX2_isWord_33 ?_
          refine lv_iload_n hx hb dX2_isWord_36 rfl (lv_at hl 2 rfl) ?_
          refine lv_iadd hx hb dX2_isWord_37 ?_
          obtain ⟨hi_7, hM⟩ := chkI_at hM
          refine va_iald hx hb hK hP 1 0 rfl rfl hi_7 dX2_isWord_38 ?_
          refine lv_aload_n hx hb dX2_isWord_39 rfl (lv_at hl 1 rfl) ?_
          refine lv_iload_n hx hb dX2_isWord_40 rfl (lv_at hl 2 rfl) ?_
          obtain ⟨hi_8, hM⟩ := chkI_at hM
          refine cm_i (w2 := (cText Y bT xT)) (va_runV (As := [.int x4]) (rest := [.int (xT 1 ((xT 0 3) + x4).toNatClampNeg)]) ⟨hx, hb, hml, hown, hts⟩ (ctJ0_charAt_5068e l D Y qQ vQ nQ fQ x4 hi_8 H.size) (cwV 1 hts gX2_isWord_J0_charAt_5068e rfl rfl rfl (by decide +kernel) ⟨Nat.le_of_ble_eq_true rfl, Nat.le_of_ble_eq_true rfl⟩) ⟨(pcE_S (fun U g mk a h => sE_blind U g mk a h) (fun U hU hW => sE_go hE hS (in_0 hS hA) hU hW.alike) (pcW_0 hK)).1, vk_recv1 hE.1 hS, (pcE_S (fun U g mk a h => sE_blind U g mk a h) (fun U hU hW => sE_go hE hS (in_0 hS hA) hU hW.alike) (pcW_0 (As := .ref qQ :: [.int x4]) hK)).2⟩ rfl rfl hl.1 rfl (lv_room (Nat.le_of_ble_eq_true rfl)) dX2_isWord_41 ⟨Nat.zero_le _, Nat.zero_le _⟩) hP (hD.same rfl) hS hA [] rfl (up_old rfl rfl (up_old rfl rfl up_nil)) (fun H locs hP hS => ?_)
          refine lv_icmp_eq (tgt := 49) hx hb dX2_isWord_44 (by decide) (fun c9 => ?_) (fun c9 => ?_)
          · replace hM := if_at_pos hM c9
            obtain ⟨x10, ex10⟩ : ∃ z : Int32, z = (x4 + 1) := ⟨_, rfl⟩
            replace hM := nm_at hM ex10
            refine lv_iinc (v := x10) (lv' := [(2, .int x10), (0, .ref (bT 0)), (1, .ref qQ)]) hx hb dX2_isWord_49 hl (k := 2) rfl (by rw [ex10]; rfl) (by decide) rfl (fun ls hl => ?_)
            refine lv_goto (tgt := 20) hx hb dX2_isWord_52 (by decide) ?_
            exact ih5 x10 hM H locs ls hP hS (lv_sub hl [1, 2, 0] rfl)
          · replace hM := if_at_neg hM c9
            exact hJ3 hM H locs ls hP hS (lv_sub hl [] rfl)
  · replace hM := if_at_neg hM c1
    refine lv_iconst (v := (0 : Int32)) hx hb dX2_isWord_16 (by decide) ?_
    cases hM
    rw [hQQ]
    exact W.zret (ty := .boolean) hx hb hr rfl (fun t ht hW => ⟨⟨_, (), rfl, rfl, by show va_P D vwCl _ t.heap; rw [ht]; exact hP⟩, hS.F ht⟩) hS.2.2 dX2_isWord_17
noncomputable def MX2_kindHere (xT : GS) : Option (Int32) := bnd1 (MX2_isWord (wL 2) (wB 2) xT) fun (r1 : Int32) => if r1 = 0 then (bnd1 (MX2_isWord (wL 3) (wB 3) xT) fun (r4 : Int32) => if r4 = 0 then (bnd1 (MX2_isWord (wL 4) (wB 4) xT) fun (r7 : Int32) => if r7 = 0 then (bnd1 (MX2_isWord (wL 5) (wB 5) xT) fun (r10 : Int32) => jn1 (fun (x12 : Int32) => some (x12)) (fun k13 => if r10 = 0 then (k13 (-1 : Int32)) else (k13 (3 : Int32)))) else (some ((2 : Int32)))) else (some ((1 : Int32)))) else (some ((0 : Int32)))
abbrev rmX2_kindHere : Room := { frames := 6, cells := 0, slots := 0, locals := 240 }
set_option maxHeartbeats 4000000 in
set_option maxRecDepth 100000 in
theorem ctX2_kindHere (l : Launch) (D : va_G) (Y : Nat → ClassId) (bT : Nat → Nat) (adK adV : Nat → Nat) (sz : Nat) (xT : GS) (rr : Int32) (hM : MX2_kindHere xT = some (rr)) : Met l yX2_kindHere wsX2_kindHere rmX2_kindHere (pcE [.ref (bT 0)] sz D Y (cText Y bT xT) (sAll adK adV (va_A (cText Y bT xT) sz))) (qiW rr D (cText Y bT xT) (va_A (cText Y bT xT) sz)) 0 0 (va_A (cText Y bT xT) sz) := by
  refine Met.ofW (cc := cX2_kindHere) (maxL := 1) (ret := (some .int)) (by decide) rfl ?_
  intro p e s m args below meth c s₁ B hml hv
  obtain ⟨⟨rfl, hsz, hP, hK, hD0⟩, hE⟩ := hv
  have hx := B.exec
  have hb := B.bytes
  have hr := B.returns
  have hts := atoms_spec (ws := wsX2_kindHere) B.pre
  have hown : s.vm.findClass RX2 = some m.cls := findClass_of_methodNamed B.named
  have hlocks := B.notSynchronized
  subst hsz
  have hD := hD0.self (sz := s.heap.size)
  generalize hAe : va_A (cText Y bT xT) s.heap.size = A at hD hE ⊢
  have hA : ∀ q : Nat, s.heap.size ≤ q → A q := fun q h => by rw [← hAe]; exact Or.inr h
  have hS : va_S A s.heap s.heap [] := va_S.rf
  have hl := lv_entry ([.ref (bT 0)]) (n := 1) (Nat.le_of_ble_eq_true rfl)
  rw [lg_entry_eq]
  generalize (lg_sl ([.ref (bT 0)]) ++ List.replicate (1 - (lg_sl ([.ref (bT 0)])).length) Slot.unset).toArray = ls at hl ⊢
  have hl : lv_has ls 1 [(0, .ref (bT 0))] := hl
  obtain ⟨QQ, hQQ⟩ : ∃ Q : State → Prop, Q = MQ below (qiW rr D (cText Y bT xT) A) ([.ref (bT 0)] : List Value).toArray s 0 0 A := ⟨_, rfl⟩
  rw [← hQQ]
  unfold MX2_kindHere at hM
  suffices hI : ∀ (H : Heap) (locs : List Loc), va_P D vwCl (cText Y bT xT) H → va_S A s.heap H locs → W p l e (headSpec wsX2_kindHere rmX2_kindHere).room s m ([.ref (bT 0)] : List Value).toArray below meth c H locs 0 0 QQ (F0 m 0 ls []) from hI _ _ hP hS
  clear hP hS
  intro H locs hP hS
  refine lv_aload_n hx hb dX2_kindHere_0 rfl (lv_at hl 0 rfl) ?_
  refine va_ldcS hx hb hown (hE.2.1 2 (by decide)) dX2_kindHere_1 ?_
  obtain ⟨r1, hc2, hM⟩ := bnd1_at hM
  refine co_i (va_runV (As := [.ref (adK 2)]) (rest := []) ⟨hx, hb, hml, hown, hts⟩ (ctX2_isWord l D Y bT (adK 2) (adV 2) (wL 2) (wB 2) H.size xT r1 hc2) (cwV 1 hts gX2_kindHere_X2_isWord rfl rfl rfl (by decide +kernel) ⟨Nat.le_of_ble_eq_true rfl, Nat.le_of_ble_eq_true rfl⟩) (pcE_V (fun U g mk a h => sE_blind U g mk a h) (fun U hU hW => sE_go (sAll_E hE (k := 2) (by decide)) hS (own_A (hD.same rfl) hS hA) hU hW.alike) (pcW_V0 (ci := 2) (q0 := 0) hK hP (hD.same rfl) rfl rfl)) rfl rfl hl.1 rfl (lv_room (Nat.le_of_ble_eq_true rfl)) dX2_kindHere_3 ⟨Nat.zero_le _, Nat.zero_le _⟩) (hD.same rfl) hS hA (fun H locs hP hS => ?_)
  refine lv_if_eq (tgt := 11) hx hb dX2_kindHere_6 (by decide) (fun c3 => ?_) (fun c3 => ?_)
  · replace hM := if_at_pos hM c3
    refine lv_aload_n hx hb dX2_kindHere_11 rfl (lv_at hl 0 rfl) ?_
    refine va_ldcS hx hb hown (hE.2.1 3 (by decide)) dX2_kindHere_12 ?_
    obtain ⟨r4, hc5, hM⟩ := bnd1_at hM
    refine co_i (va_runV (As := [.ref (adK 3)]) (rest := []) ⟨hx, hb, hml, hown, hts⟩ (ctX2_isWord l D Y bT (adK 3) (adV 3) (wL 3) (wB 3) H.size xT r4 hc5) (cwV 1 hts gX2_kindHere_X2_isWord rfl rfl rfl (by decide +kernel) ⟨Nat.le_of_ble_eq_true rfl, Nat.le_of_ble_eq_true rfl⟩) (pcE_V (fun U g mk a h => sE_blind U g mk a h) (fun U hU hW => sE_go (sAll_E hE (k := 3) (by decide)) hS (own_A (hD.same rfl) hS hA) hU hW.alike) (pcW_V0 (ci := 2) (q0 := 0) hK hP (hD.same rfl) rfl rfl)) rfl rfl hl.1 rfl (lv_room (Nat.le_of_ble_eq_true rfl)) dX2_kindHere_14 ⟨Nat.zero_le _, Nat.zero_le _⟩) (hD.same rfl) hS hA (fun H locs hP hS => ?_)
    refine lv_if_eq (tgt := 22) hx hb dX2_kindHere_17 (by decide) (fun c6 => ?_) (fun c6 => ?_)
    · replace hM := if_at_pos hM c6
      refine lv_aload_n hx hb dX2_kindHere_22 rfl (lv_at hl 0 rfl) ?_
      refine va_ldcS hx hb hown (hE.2.1 4 (by decide)) dX2_kindHere_23 ?_
      obtain ⟨r7, hc8, hM⟩ := bnd1_at hM
      refine co_i (va_runV (As := [.ref (adK 4)]) (rest := []) ⟨hx, hb, hml, hown, hts⟩ (ctX2_isWord l D Y bT (adK 4) (adV 4) (wL 4) (wB 4) H.size xT r7 hc8) (cwV 1 hts gX2_kindHere_X2_isWord rfl rfl rfl (by decide +kernel) ⟨Nat.le_of_ble_eq_true rfl, Nat.le_of_ble_eq_true rfl⟩) (pcE_V (fun U g mk a h => sE_blind U g mk a h) (fun U hU hW => sE_go (sAll_E hE (k := 4) (by decide)) hS (own_A (hD.same rfl) hS hA) hU hW.alike) (pcW_V0 (ci := 2) (q0 := 0) hK hP (hD.same rfl) rfl rfl)) rfl rfl hl.1 rfl (lv_room (Nat.le_of_ble_eq_true rfl)) dX2_kindHere_25 ⟨Nat.zero_le _, Nat.zero_le _⟩) (hD.same rfl) hS hA (fun H locs hP hS => ?_)
      refine lv_if_eq (tgt := 33) hx hb dX2_kindHere_28 (by decide) (fun c9 => ?_) (fun c9 => ?_)
      · replace hM := if_at_pos hM c9
        refine lv_aload_n hx hb dX2_kindHere_33 rfl (lv_at hl 0 rfl) ?_
        refine va_ldcS hx hb hown (hE.2.1 5 (by decide)) dX2_kindHere_34 ?_
        obtain ⟨r10, hc11, hM⟩ := bnd1_at hM
        refine co_i (va_runV (As := [.ref (adK 5)]) (rest := []) ⟨hx, hb, hml, hown, hts⟩ (ctX2_isWord l D Y bT (adK 5) (adV 5) (wL 5) (wB 5) H.size xT r10 hc11) (cwV 1 hts gX2_kindHere_X2_isWord rfl rfl rfl (by decide +kernel) ⟨Nat.le_of_ble_eq_true rfl, Nat.le_of_ble_eq_true rfl⟩) (pcE_V (fun U g mk a h => sE_blind U g mk a h) (fun U hU hW => sE_go (sAll_E hE (k := 5) (by decide)) hS (own_A (hD.same rfl) hS hA) hU hW.alike) (pcW_V0 (ci := 2) (q0 := 0) hK hP (hD.same rfl) rfl rfl)) rfl rfl hl.1 rfl (lv_room (Nat.le_of_ble_eq_true rfl)) dX2_kindHere_36 ⟨Nat.zero_le _, Nat.zero_le _⟩) (hD.same rfl) hS hA (fun H locs hP hS => ?_)
        refine jn1_at (fun (x12 : Int32) => ∀ (H : Heap) (locs : List Loc) (ls : Array Slot), va_P D vwCl (cText Y bT xT) H → va_S A s.heap H locs → lv_has ls 1 [] → W p l e (headSpec wsX2_kindHere rmX2_kindHere).room s m ([.ref (bT 0)] : List Value).toArray below meth c H locs 0 0 QQ (F0 m 47 ls [.int x12])) hM (fun x12 hM H locs ls hP hS hl => ?_) (fun k13 hJ13 hM => ?_)
        · cases hM
          rw [hQQ]
          exact W.iret hx hb hr (fun t ht hW => ⟨⟨_, (), rfl, rfl, by show va_P D vwCl _ t.heap; rw [ht]; exact hP⟩, hS.F ht⟩) hS.2.2 dX2_kindHere_47
        · refine lv_if_eq (tgt := 46) hx hb dX2_kindHere_39 (by decide) (fun c14 => ?_) (fun c14 => ?_)
          · replace hM := if_at_pos hM c14
            refine lv_iconst (v := (-1 : Int32)) hx hb dX2_kindHere_46 (by decide) ?_
            exact hJ13 (-1 : Int32) hM H locs ls hP hS (lv_sub hl [] rfl)
          · replace hM := if_at_neg hM c14
            refine lv_iconst (v := (3 : Int32)) hx hb dX2_kindHere_42 (by decide) ?_
            refine lv_goto (tgt := 47) hx hb dX2_kindHere_43 (by decide) ?_
            exact hJ13 (3 : Int32) hM H locs ls hP hS (lv_sub hl [] rfl)
      · replace hM := if_at_neg hM c9
        refine lv_iconst (v := (2 : Int32)) hx hb dX2_kindHere_31 (by decide) ?_
        cases hM
        rw [hQQ]
        exact W.iret hx hb hr (fun t ht hW => ⟨⟨_, (), rfl, rfl, by show va_P D vwCl _ t.heap; rw [ht]; exact hP⟩, hS.F ht⟩) hS.2.2 dX2_kindHere_32
    · replace hM := if_at_neg hM c6
      refine lv_iconst (v := (1 : Int32)) hx hb dX2_kindHere_20 (by decide) ?_
      cases hM
      rw [hQQ]
      exact W.iret hx hb hr (fun t ht hW => ⟨⟨_, (), rfl, rfl, by show va_P D vwCl _ t.heap; rw [ht]; exact hP⟩, hS.F ht⟩) hS.2.2 dX2_kindHere_21
  · replace hM := if_at_neg hM c3
    refine lv_iconst (v := (0 : Int32)) hx hb dX2_kindHere_9 (by decide) ?_
    cases hM
    rw [hQQ]
    exact W.iret hx hb hr (fun t ht hW => ⟨⟨_, (), rfl, rfl, by show va_P D vwCl _ t.heap; rw [ht]; exact hP⟩, hS.F ht⟩) hS.2.2 dX2_kindHere_10
