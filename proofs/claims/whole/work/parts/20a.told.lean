noncomputable def BJ7_fill_53178_5 (x1 : Int32) (k3 : (Nat → Int32) → Option ((Nat → Int32))) (nR : Nat) (i2 : Int32) (rec6 : Int32 → (Nat → Int32) → Option ((Nat → Int32))) (x4 : Int32) (fR_5 : Nat → Int32) : Option ((Nat → Int32)) := if x1 ≤ x4 then (k3 fR_5) else (chkI x4 nR (nm (upd fR_5 x4.toNatClampNeg i2) fun (fR_9 : Nat → Int32) => nm (x4 + 1) fun (x10 : Int32) => rec6 x10 fR_9))
noncomputable def MJ7_fill_53178 (nR : Nat) (fR : Nat → Int32) (i2 : Int32) : Option ((Nat → Int32)) := nm (Int32.ofNat nR) fun (x1 : Int32) => jn1 (fun (fR_2 : Nat → Int32) => some (fR_2)) (fun k3 => lq2 (BJ7_fill_53178_5 x1 k3 nR i2) FU (0 : Int32) fR)
abbrev rmJ7_fill_53178 : Room := { frames := 1, cells := 0, slots := 0, locals := 40 }
set_option maxHeartbeats 4000000 in
set_option maxRecDepth 100000 in
theorem ctJ7_fill_53178 (l : Launch) (D : va_G) (Y : Nat → ClassId) (qR : Nat) (nR : Nat) (sz : Nat) (fR : Nat → Int32) (i2 : Int32) (fRz : Nat → Int32) (hM : MJ7_fill_53178 nR fR i2 = some (fRz)) : Met l yJ7_fill_53178 wsJ7_fill_53178 rmJ7_fill_53178 (pcW [.ref qR, .int i2] sz D Y (cRow Y qR nR fR)) (qvW D (cRow Y qR nR fRz) (va_A (cRow Y qR nR fR) sz)) 0 0 (va_A (cRow Y qR nR fR) sz) := by
  refine Met.ofW (cc := cJ7_fill_53178) (maxL := 4) (ret := (none)) (by decide) rfl ?_
  intro p e s m args below meth c s₁ B hml hv
  obtain ⟨rfl, hsz, hP, hK, hD0⟩ := hv
  have hx := B.exec
  have hb := B.bytes
  have hr := B.returns
  have hts := atoms_spec (ws := wsJ7_fill_53178) B.pre
  have hown : s.vm.findClass RJ7 = some m.cls := findClass_of_methodNamed B.named
  have hlocks := B.notSynchronized
  subst hsz
  have hD := hD0.self (sz := s.heap.size)
  generalize hAe : va_A (cRow Y qR nR fR) s.heap.size = A at hD ⊢
  have hA : ∀ q : Nat, s.heap.size ≤ q → A q := fun q h => by rw [← hAe]; exact Or.inr h
  have hS : va_S A s.heap s.heap [] := va_S.rf
  have hl := lv_entry ([.ref qR, .int i2]) (n := 4) (Nat.le_of_ble_eq_true rfl)
  rw [lg_entry_eq]
  generalize (lg_sl ([.ref qR, .int i2]) ++ List.replicate (4 - (lg_sl ([.ref qR, .int i2])).length) Slot.unset).toArray = ls at hl ⊢
  have hl : lv_has ls 4 [(0, .ref qR), (1, .int i2)] := hl
  obtain ⟨QQ, hQQ⟩ : ∃ Q : State → Prop, Q = MQ below (qvW D (cRow Y qR nR fRz) A) ([.ref qR, .int i2] : List Value).toArray s 0 0 A := ⟨_, rfl⟩
  rw [← hQQ]
  unfold MJ7_fill_53178 at hM
  suffices hI : ∀ (H : Heap) (locs : List Loc), va_P D vwCl (cRow Y qR nR fR) H → va_S A s.heap H locs → W p l e (headSpec wsJ7_fill_53178 rmJ7_fill_53178).room s m ([.ref qR, .int i2] : List Value).toArray below meth c H locs 0 0 QQ (F0 m 0 ls []) from hI _ _ hP hS
  clear hP hS
  intro H locs hP hS
  refine lv_iconst (v := (0 : Int32)) hx hb dJ7_fill_53178_0 (by decide) ?_
  refine lv_istore_n (lv' := [(2, .int (0 : Int32)), (0, .ref qR), (1, .int i2)]) hx hb dJ7_fill_53178_1 rfl hl (by decide) rfl (fun ls hl => ?_)
  refine lv_aload_n hx hb dJ7_fill_53178_2 rfl (lv_at hl 1 rfl) ?_
  refine va_alen (v := (Int32.ofNat nR)) hx hb hK hP 0 0 rfl rfl rfl dJ7_fill_53178_3 ?_
  refine lv_topi (fun x1 ex1 => ?_)
  replace hM := nm_at hM ex1
  refine lv_istore_n (lv' := [(3, .int x1), (2, .int (0 : Int32)), (0, .ref qR), (1, .int i2)]) hx hb dJ7_fill_53178_4 rfl hl (by decide) rfl (fun ls hl => ?_)
  refine jn1_at (fun (fR_2 : Nat → Int32) => ∀ (H : Heap) (locs : List Loc) (ls : Array Slot), va_P D vwCl (cRow Y qR nR fR_2) H → va_S A s.heap H locs → lv_has ls 4 [] → W p l e (headSpec wsJ7_fill_53178 rmJ7_fill_53178).room s m ([.ref qR, .int i2] : List Value).toArray below meth c H locs 0 0 QQ (F0 m 20 ls [])) hM (fun fR_2 hM H locs ls hP hS hl => ?_) (fun k3 hJ3 hM => ?_)
  · cases hM
    rw [hQQ]
    exact W.vret hx hb hr (fun t ht hW => ⟨⟨(), rfl, trivial, by show va_P D vwCl _ t.heap; rw [ht]; exact hP⟩, hS.F ht⟩) hS.2.2 dJ7_fill_53178_20
  · refine lq2_at (fun (x4 : Int32) (fR_5 : Nat → Int32) => ∀ (H : Heap) (locs : List Loc) (ls : Array Slot), va_P D vwCl (cRow Y qR nR fR_5) H → va_S A s.heap H locs → lv_has ls 4 [(0, .ref qR), (1, .int i2), (2, .int x4), (3, .int x1)] → W p l e (headSpec wsJ7_fill_53178 rmJ7_fill_53178).room s m ([.ref qR, .int i2] : List Value).toArray below meth c H locs 0 0 QQ (F0 m 5 ls [])) (fun rec6 x4 fR_5 ih6 hM H locs ls hP hS hl => ?_) FU (0 : Int32) fR hM H locs ls hP hS (lv_sub hl [2, 3, 1, 0] rfl)
    unfold BJ7_fill_53178_5 at hM
    refine lv_iload_n hx hb dJ7_fill_53178_5 rfl (lv_at hl 2 rfl) ?_
    refine lv_iload_n hx hb dJ7_fill_53178_6 rfl (lv_at hl 3 rfl) ?_
    refine lv_icmp_ge (tgt := 20) hx hb dJ7_fill_53178_7 (by decide) (fun c7 => ?_) (fun c7 => ?_)
    · replace hM := if_at_pos hM c7
      exact hJ3 fR_5 hM H locs ls hP hS (lv_sub hl [] rfl)
    · replace hM := if_at_neg hM c7
      refine lv_aload_n hx hb dJ7_fill_53178_10 rfl (lv_at hl 0 rfl) ?_
      refine lv_iload_n hx hb dJ7_fill_53178_11 rfl (lv_at hl 2 rfl) ?_
      refine lv_iload_n hx hb dJ7_fill_53178_12 rfl (lv_at hl 1 rfl) ?_
      obtain ⟨hi_8, hM⟩ := chkI_at hM
      refine va_iast hx hb hK hP (hD.same rfl) hS 0 0 rfl rfl hi_8 dJ7_fill_53178_13 (fun H locs hP _ hS => ?_)
      obtain ⟨fR_9, efR_9⟩ : ∃ z : Nat → Int32, z = (upd fR_5 x4.toNatClampNeg i2) := ⟨_, rfl⟩
      have hP : va_P D vwCl (cRow Y qR nR fR_9) H := by rw [efR_9]; exact hP
      replace hM := nm_at hM efR_9
      obtain ⟨x10, ex10⟩ : ∃ z : Int32, z = (x4 + 1) := ⟨_, rfl⟩
      replace hM := nm_at hM ex10
      refine lv_iinc (v := x10) (lv' := [(2, .int x10), (0, .ref qR), (1, .int i2), (3, .int x1)]) hx hb dJ7_fill_53178_14 hl (k := 2) rfl (by rw [ex10]; rfl) (by decide) rfl (fun ls hl => ?_)
      refine lv_goto (tgt := 5) hx hb dJ7_fill_53178_17 (by decide) ?_
      exact ih6 x10 fR_9 hM H locs ls hP hS (lv_sub hl [1, 2, 0, 3] rfl)
noncomputable def BJ7_fill_d0a16_6 (x1 : Int32) (k3 : (Nat → Int64) → Option ((Nat → Int64))) (nR : Nat) (i2 : Int64) (rec6 : Int32 → (Nat → Int64) → Option ((Nat → Int64))) (x4 : Int32) (fR_5 : Nat → Int64) : Option ((Nat → Int64)) := if x1 ≤ x4 then (k3 fR_5) else (chkI x4 nR (nm (vp_updL fR_5 x4.toNatClampNeg i2) fun (fR_9 : Nat → Int64) => nm (x4 + 1) fun (x10 : Int32) => rec6 x10 fR_9))
noncomputable def MJ7_fill_d0a16 (nR : Nat) (fR : Nat → Int64) (i2 : Int64) : Option ((Nat → Int64)) := nm (Int32.ofNat nR) fun (x1 : Int32) => jn1 (fun (fR_2 : Nat → Int64) => some (fR_2)) (fun k3 => lq2 (BJ7_fill_d0a16_6 x1 k3 nR i2) FU (0 : Int32) fR)
abbrev rmJ7_fill_d0a16 : Room := { frames := 1, cells := 0, slots := 0, locals := 40 }
set_option maxHeartbeats 4000000 in
set_option maxRecDepth 100000 in
theorem ctJ7_fill_d0a16 (l : Launch) (D : va_G) (Y : Nat → ClassId) (qR : Nat) (nR : Nat) (sz : Nat) (fR : Nat → Int64) (i2 : Int64) (fRz : Nat → Int64) (hM : MJ7_fill_d0a16 nR fR i2 = some (fRz)) : Met l yJ7_fill_d0a16 wsJ7_fill_d0a16 rmJ7_fill_d0a16 (pcW [.ref qR, .long i2] sz D Y (cLong Y qR nR fR)) (qvW D (cLong Y qR nR fRz) (va_A (cLong Y qR nR fR) sz)) 0 0 (va_A (cLong Y qR nR fR) sz) := by
  refine Met.ofW (cc := cJ7_fill_d0a16) (maxL := 5) (ret := (none)) (by decide) rfl ?_
  intro p e s m args below meth c s₁ B hml hv
  obtain ⟨rfl, hsz, hP, hK, hD0⟩ := hv
  have hx := B.exec
  have hb := B.bytes
  have hr := B.returns
  have hts := atoms_spec (ws := wsJ7_fill_d0a16) B.pre
  have hown : s.vm.findClass RJ7 = some m.cls := findClass_of_methodNamed B.named
  have hlocks := B.notSynchronized
  subst hsz
  have hD := hD0.self (sz := s.heap.size)
  generalize hAe : va_A (cLong Y qR nR fR) s.heap.size = A at hD ⊢
  have hA : ∀ q : Nat, s.heap.size ≤ q → A q := fun q h => by rw [← hAe]; exact Or.inr h
  have hS : va_S A s.heap s.heap [] := va_S.rf
  have hl := lv_entry ([.ref qR, .long i2]) (n := 5) (Nat.le_of_ble_eq_true rfl)
  rw [lg_entry_eq]
  generalize (lg_sl ([.ref qR, .long i2]) ++ List.replicate (5 - (lg_sl ([.ref qR, .long i2])).length) Slot.unset).toArray = ls at hl ⊢
  have hl : lv_has ls 5 [(0, .ref qR), (1, .long i2)] := hl
  obtain ⟨QQ, hQQ⟩ : ∃ Q : State → Prop, Q = MQ below (qvW D (cLong Y qR nR fRz) A) ([.ref qR, .long i2] : List Value).toArray s 0 0 A := ⟨_, rfl⟩
  rw [← hQQ]
  unfold MJ7_fill_d0a16 at hM
  suffices hI : ∀ (H : Heap) (locs : List Loc), va_P D vwCl (cLong Y qR nR fR) H → va_S A s.heap H locs → W p l e (headSpec wsJ7_fill_d0a16 rmJ7_fill_d0a16).room s m ([.ref qR, .long i2] : List Value).toArray below meth c H locs 0 0 QQ (F0 m 0 ls []) from hI _ _ hP hS
  clear hP hS
  intro H locs hP hS
  refine lv_iconst (v := (0 : Int32)) hx hb dJ7_fill_d0a16_0 (by decide) ?_
  refine lv_istore_n (lv' := [(3, .int (0 : Int32)), (0, .ref qR), (1, .long i2)]) hx hb dJ7_fill_d0a16_1 rfl hl (by decide) rfl (fun ls hl => ?_)
  refine lv_aload_n hx hb dJ7_fill_d0a16_2 rfl (lv_at hl 1 rfl) ?_
  refine va_alen (v := (Int32.ofNat nR)) hx hb hK hP 0 1 rfl rfl rfl dJ7_fill_d0a16_3 ?_
  refine lv_topi (fun x1 ex1 => ?_)
  replace hM := nm_at hM ex1
  refine lv_istore (lv' := [(4, .int x1), (3, .int (0 : Int32)), (0, .ref qR), (1, .long i2)]) hx hb dJ7_fill_d0a16_4 hl (by decide) rfl (fun ls hl => ?_)
  refine jn1_at (fun (fR_2 : Nat → Int64) => ∀ (H : Heap) (locs : List Loc) (ls : Array Slot), va_P D vwCl (cLong Y qR nR fR_2) H → va_S A s.heap H locs → lv_has ls 5 [] → W p l e (headSpec wsJ7_fill_d0a16 rmJ7_fill_d0a16).room s m ([.ref qR, .long i2] : List Value).toArray below meth c H locs 0 0 QQ (F0 m 22 ls [])) hM (fun fR_2 hM H locs ls hP hS hl => ?_) (fun k3 hJ3 hM => ?_)
  · cases hM
    rw [hQQ]
    exact W.vret hx hb hr (fun t ht hW => ⟨⟨(), rfl, trivial, by show va_P D vwCl _ t.heap; rw [ht]; exact hP⟩, hS.F ht⟩) hS.2.2 dJ7_fill_d0a16_22
  · refine lq2_at (fun (x4 : Int32) (fR_5 : Nat → Int64) => ∀ (H : Heap) (locs : List Loc) (ls : Array Slot), va_P D vwCl (cLong Y qR nR fR_5) H → va_S A s.heap H locs → lv_has ls 5 [(0, .ref qR), (1, .long i2), (3, .int x4), (4, .int x1)] → W p l e (headSpec wsJ7_fill_d0a16 rmJ7_fill_d0a16).room s m ([.ref qR, .long i2] : List Value).toArray below meth c H locs 0 0 QQ (F0 m 6 ls [])) (fun rec6 x4 fR_5 ih6 hM H locs ls hP hS hl => ?_) FU (0 : Int32) fR hM H locs ls hP hS (lv_sub hl [2, 3, 1, 0] rfl)
    unfold BJ7_fill_d0a16_6 at hM
    refine lv_iload_n hx hb dJ7_fill_d0a16_6 rfl (lv_at hl 2 rfl) ?_
    refine lv_iload hx hb dJ7_fill_d0a16_7 (lv_at hl 3 rfl) ?_
    refine lv_icmp_ge (tgt := 22) hx hb dJ7_fill_d0a16_9 (by decide) (fun c7 => ?_) (fun c7 => ?_)
    · replace hM := if_at_pos hM c7
      exact hJ3 fR_5 hM H locs ls hP hS (lv_sub hl [] rfl)
    · replace hM := if_at_neg hM c7
      refine lv_aload_n hx hb dJ7_fill_d0a16_12 rfl (lv_at hl 0 rfl) ?_
      refine lv_iload_n hx hb dJ7_fill_d0a16_13 rfl (lv_at hl 2 rfl) ?_
      refine lv_lload_n hx hb dJ7_fill_d0a16_14 rfl (lv_at hl 1 rfl) ?_
      obtain ⟨hi_8, hM⟩ := chkI_at hM
      refine va_last hx hb hK hP (hD.same rfl) hS 0 1 rfl rfl hi_8 dJ7_fill_d0a16_15 (fun H locs hP _ hS => ?_)
      obtain ⟨fR_9, efR_9⟩ : ∃ z : Nat → Int64, z = (vp_updL fR_5 x4.toNatClampNeg i2) := ⟨_, rfl⟩
      have hP : va_P D vwCl (cLong Y qR nR fR_9) H := by rw [efR_9]; exact hP
      replace hM := nm_at hM efR_9
      obtain ⟨x10, ex10⟩ : ∃ z : Int32, z = (x4 + 1) := ⟨_, rfl⟩
      replace hM := nm_at hM ex10
      refine lv_iinc (v := x10) (lv' := [(3, .int x10), (0, .ref qR), (1, .long i2), (4, .int x1)]) hx hb dJ7_fill_d0a16_16 hl (k := 2) rfl (by rw [ex10]; rfl) (by decide) rfl (fun ls hl => ?_)
      refine lv_goto (tgt := 6) hx hb dJ7_fill_d0a16_19 (by decide) ?_
      exact ih6 x10 fR_9 hM H locs ls hP hS (lv_sub hl [1, 2, 0, 3] rfl)
noncomputable def MX3_next (tT : GS) (i1 : Int32) : Option (Int32) := jn1 (fun (x1 : Int32) => some (x1)) (fun k2 => if (tT 0 0) ≤ (i1 + (1 : Int32)) then (k2 (0 : Int32)) else (k2 (i1 + (1 : Int32))))
abbrev rmX3_next : Room := { frames := 1, cells := 0, slots := 0, locals := 40 }
set_option maxHeartbeats 4000000 in
set_option maxRecDepth 100000 in
theorem ctX3_next (l : Launch) (D : va_G) (Y : Nat → ClassId) (hT : Nat → Nat) (sz : Nat) (tT : GS) (i1 : Int32) (rr : Int32) (hM : MX3_next tT i1 = some (rr)) : Met l yX3_next wsX3_next rmX3_next (pcW [.ref (hT 0), .int i1] sz D Y (cTold Y hT tT)) (qiW rr D (cTold Y hT tT) (va_A (cTold Y hT tT) sz)) 0 0 (va_A (cTold Y hT tT) sz) := by
  refine Met.ofW (cc := cX3_next) (maxL := 2) (ret := (some .int)) (by decide) rfl ?_
  intro p e s m args below meth c s₁ B hml hv
  obtain ⟨rfl, hsz, hP, hK, hD0⟩ := hv
  have hx := B.exec
  have hb := B.bytes
  have hr := B.returns
  have hts := atoms_spec (ws := wsX3_next) B.pre
  have hown : s.vm.findClass RX3 = some m.cls := findClass_of_methodNamed B.named
  have hlocks := B.notSynchronized
  subst hsz
  have hD := hD0.self (sz := s.heap.size)
  generalize hAe : va_A (cTold Y hT tT) s.heap.size = A at hD ⊢
  have hA : ∀ q : Nat, s.heap.size ≤ q → A q := fun q h => by rw [← hAe]; exact Or.inr h
  have hS : va_S A s.heap s.heap [] := va_S.rf
  have hi3 : ∀ w ∈ wsX30, w ∈ wsX3_next := fun w h => List.mem_cons_of_mem _ (List.mem_append_right _ h)
  have hl := lv_entry ([.ref (hT 0), .int i1]) (n := 2) (Nat.le_of_ble_eq_true rfl)
  rw [lg_entry_eq]
  generalize (lg_sl ([.ref (hT 0), .int i1]) ++ List.replicate (2 - (lg_sl ([.ref (hT 0), .int i1])).length) Slot.unset).toArray = ls at hl ⊢
  have hl : lv_has ls 2 [(0, .ref (hT 0)), (1, .int i1)] := hl
  obtain ⟨QQ, hQQ⟩ : ∃ Q : State → Prop, Q = MQ below (qiW rr D (cTold Y hT tT) A) ([.ref (hT 0), .int i1] : List Value).toArray s 0 0 A := ⟨_, rfl⟩
  rw [← hQQ]
  unfold MX3_next at hM
  suffices hI : ∀ (H : Heap) (locs : List Loc), va_P D vwCl (cTold Y hT tT) H → va_S A s.heap H locs → W p l e (headSpec wsX3_next rmX3_next).room s m ([.ref (hT 0), .int i1] : List Value).toArray below meth c H locs 0 0 QQ (F0 m 0 ls []) from hI _ _ hP hS
  clear hP hS
  intro H locs hP hS
  refine lv_iload_n hx hb dX3_next_0 rfl (lv_at hl 1 rfl) ?_
  refine lv_iconst (v := (1 : Int32)) hx hb dX3_next_1 (by decide) ?_
  refine lv_iadd hx hb dX3_next_2 ?_
  refine lv_aload_n hx hb dX3_next_3 rfl (lv_at hl 0 rfl) ?_
  refine va_get hx hb hts hi3 hown hK hP 0 rfl rfl 0 (by decide) (hts (.fieldLink RX3 37 "NightPlots$Told" "plots" "I") (List.mem_of_getElem? (i := 1) rfl)) (fun _ h9 => h9) rfl dX3_next_4 ?_
  refine jn1_at (fun (x1 : Int32) => ∀ (H : Heap) (locs : List Loc) (ls : Array Slot), va_P D vwCl (cTold Y hT tT) H → va_S A s.heap H locs → lv_has ls 2 [] → W p l e (headSpec wsX3_next rmX3_next).room s m ([.ref (hT 0), .int i1] : List Value).toArray below meth c H locs 0 0 QQ (F0 m 17 ls [.int x1])) hM (fun x1 hM H locs ls hP hS hl => ?_) (fun k2 hJ2 hM => ?_)
  · cases hM
    rw [hQQ]
    exact W.iret hx hb hr (fun t ht hW => ⟨⟨_, (), rfl, rfl, by show va_P D vwCl _ t.heap; rw [ht]; exact hP⟩, hS.F ht⟩) hS.2.2 dX3_next_17
  · refine lv_icmp_ge (tgt := 16) hx hb dX3_next_7 (by decide) (fun c3 => ?_) (fun c3 => ?_)
    · replace hM := if_at_pos hM c3
      refine lv_iconst (v := (0 : Int32)) hx hb dX3_next_16 (by decide) ?_
      exact hJ2 (0 : Int32) hM H locs ls hP hS (lv_sub hl [] rfl)
    · replace hM := if_at_neg hM c3
      refine lv_iload_n hx hb dX3_next_10 rfl (lv_at hl 1 rfl) ?_
      refine lv_iconst (v := (1 : Int32)) hx hb dX3_next_11 (by decide) ?_
      refine lv_iadd hx hb dX3_next_12 ?_
      refine lv_goto (tgt := 17) hx hb dX3_next_13 (by decide) ?_
      exact hJ2 (i1 + (1 : Int32)) hM H locs ls hP hS (lv_sub hl [] rfl)
noncomputable def MX3_previous (tT : GS) (i1 : Int32) : Option (Int32) := jn1 (fun (x1 : Int32) => some (x1)) (fun k2 => if i1 ≤ 0 then (k2 ((tT 0 0) - (1 : Int32))) else (k2 (i1 - (1 : Int32))))
abbrev rmX3_previous : Room := { frames := 1, cells := 0, slots := 0, locals := 40 }
set_option maxHeartbeats 4000000 in
set_option maxRecDepth 100000 in
theorem ctX3_previous (l : Launch) (D : va_G) (Y : Nat → ClassId) (hT : Nat → Nat) (sz : Nat) (tT : GS) (i1 : Int32) (rr : Int32) (hM : MX3_previous tT i1 = some (rr)) : Met l yX3_previous wsX3_previous rmX3_previous (pcW [.ref (hT 0), .int i1] sz D Y (cTold Y hT tT)) (qiW rr D (cTold Y hT tT) (va_A (cTold Y hT tT) sz)) 0 0 (va_A (cTold Y hT tT) sz) := by
  refine Met.ofW (cc := cX3_previous) (maxL := 2) (ret := (some .int)) (by decide) rfl ?_
  intro p e s m args below meth c s₁ B hml hv
  obtain ⟨rfl, hsz, hP, hK, hD0⟩ := hv
  have hx := B.exec
  have hb := B.bytes
  have hr := B.returns
  have hts := atoms_spec (ws := wsX3_previous) B.pre
  have hown : s.vm.findClass RX3 = some m.cls := findClass_of_methodNamed B.named
  have hlocks := B.notSynchronized
  subst hsz
  have hD := hD0.self (sz := s.heap.size)
  generalize hAe : va_A (cTold Y hT tT) s.heap.size = A at hD ⊢
  have hA : ∀ q : Nat, s.heap.size ≤ q → A q := fun q h => by rw [← hAe]; exact Or.inr h
  have hS : va_S A s.heap s.heap [] := va_S.rf
  have hi3 : ∀ w ∈ wsX30, w ∈ wsX3_previous := fun w h => List.mem_cons_of_mem _ (List.mem_append_right _ h)
  have hl := lv_entry ([.ref (hT 0), .int i1]) (n := 2) (Nat.le_of_ble_eq_true rfl)
  rw [lg_entry_eq]
  generalize (lg_sl ([.ref (hT 0), .int i1]) ++ List.replicate (2 - (lg_sl ([.ref (hT 0), .int i1])).length) Slot.unset).toArray = ls at hl ⊢
  have hl : lv_has ls 2 [(0, .ref (hT 0)), (1, .int i1)] := hl
  obtain ⟨QQ, hQQ⟩ : ∃ Q : State → Prop, Q = MQ below (qiW rr D (cTold Y hT tT) A) ([.ref (hT 0), .int i1] : List Value).toArray s 0 0 A := ⟨_, rfl⟩
  rw [← hQQ]
  unfold MX3_previous at hM
  suffices hI : ∀ (H : Heap) (locs : List Loc), va_P D vwCl (cTold Y hT tT) H → va_S A s.heap H locs → W p l e (headSpec wsX3_previous rmX3_previous).room s m ([.ref (hT 0), .int i1] : List Value).toArray below meth c H locs 0 0 QQ (F0 m 0 ls []) from hI _ _ hP hS
  clear hP hS
  intro H locs hP hS
  refine lv_iload_n hx hb dX3_previous_0 rfl (lv_at hl 1 rfl) ?_
  refine jn1_at (fun (x1 : Int32) => ∀ (H : Heap) (locs : List Loc) (ls : Array Slot), va_P D vwCl (cTold Y hT tT) H → va_S A s.heap H locs → lv_has ls 2 [] → W p l e (headSpec wsX3_previous rmX3_previous).room s m ([.ref (hT 0), .int i1] : List Value).toArray below meth c H locs 0 0 QQ (F0 m 16 ls [.int x1])) hM (fun x1 hM H locs ls hP hS hl => ?_) (fun k2 hJ2 hM => ?_)
  · cases hM
    rw [hQQ]
    exact W.iret hx hb hr (fun t ht hW => ⟨⟨_, (), rfl, rfl, by show va_P D vwCl _ t.heap; rw [ht]; exact hP⟩, hS.F ht⟩) hS.2.2 dX3_previous_16
  · refine lv_if_le (tgt := 10) hx hb dX3_previous_1 (by decide) (fun c3 => ?_) (fun c3 => ?_)
    · replace hM := if_at_pos hM c3
      refine lv_aload_n hx hb dX3_previous_10 rfl (lv_at hl 0 rfl) ?_
      refine va_get hx hb hts hi3 hown hK hP 0 rfl rfl 0 (by decide) (hts (.fieldLink RX3 37 "NightPlots$Told" "plots" "I") (List.mem_of_getElem? (i := 1) rfl)) (fun _ h9 => h9) rfl dX3_previous_11 ?_
      refine lv_iconst (v := (1 : Int32)) hx hb dX3_previous_14 (by decide) ?_
      refine lv_isub hx hb dX3_previous_15 ?_
      exact hJ2 ((tT 0 0) - (1 : Int32)) hM H locs ls hP hS (lv_sub hl [] rfl)
    · replace hM := if_at_neg hM c3
      refine lv_iload_n hx hb dX3_previous_4 rfl (lv_at hl 1 rfl) ?_
      refine lv_iconst (v := (1 : Int32)) hx hb dX3_previous_5 (by decide) ?_
      refine lv_isub hx hb dX3_previous_6 ?_
      refine lv_goto (tgt := 16) hx hb dX3_previous_7 (by decide) ?_
      exact hJ2 (i1 - (1 : Int32)) hM H locs ls hP hS (lv_sub hl [] rfl)
noncomputable def MX3_allPlots (tT : GS) : Option (Int32) := some ((((1 : Int32) <<< ((tT 0 0) &&& 31)) - (1 : Int32)))
abbrev rmX3_allPlots : Room := { frames := 1, cells := 0, slots := 0, locals := 40 }
set_option maxHeartbeats 4000000 in
set_option maxRecDepth 100000 in
theorem ctX3_allPlots (l : Launch) (D : va_G) (Y : Nat → ClassId) (hT : Nat → Nat) (sz : Nat) (tT : GS) (rr : Int32) (hM : MX3_allPlots tT = some (rr)) : Met l yX3_allPlots wsX3_allPlots rmX3_allPlots (pcW [.ref (hT 0)] sz D Y (cTold Y hT tT)) (qiW rr D (cTold Y hT tT) (va_A (cTold Y hT tT) sz)) 0 0 (va_A (cTold Y hT tT) sz) := by
  refine Met.ofW (cc := cX3_allPlots) (maxL := 1) (ret := (some .int)) (by decide) rfl ?_
  intro p e s m args below meth c s₁ B hml hv
  obtain ⟨rfl, hsz, hP, hK, hD0⟩ := hv
  have hx := B.exec
  have hb := B.bytes
  have hr := B.returns
  have hts := atoms_spec (ws := wsX3_allPlots) B.pre
  have hown : s.vm.findClass RX3 = some m.cls := findClass_of_methodNamed B.named
  have hlocks := B.notSynchronized
  subst hsz
  have hD := hD0.self (sz := s.heap.size)
  generalize hAe : va_A (cTold Y hT tT) s.heap.size = A at hD ⊢
  have hA : ∀ q : Nat, s.heap.size ≤ q → A q := fun q h => by rw [← hAe]; exact Or.inr h
  have hS : va_S A s.heap s.heap [] := va_S.rf
  have hi3 : ∀ w ∈ wsX30, w ∈ wsX3_allPlots := fun w h => List.mem_cons_of_mem _ (List.mem_append_right _ h)
  have hl := lv_entry ([.ref (hT 0)]) (n := 1) (Nat.le_of_ble_eq_true rfl)
  rw [lg_entry_eq]
  generalize (lg_sl ([.ref (hT 0)]) ++ List.replicate (1 - (lg_sl ([.ref (hT 0)])).length) Slot.unset).toArray = ls at hl ⊢
  have hl : lv_has ls 1 [(0, .ref (hT 0))] := hl
  obtain ⟨QQ, hQQ⟩ : ∃ Q : State → Prop, Q = MQ below (qiW rr D (cTold Y hT tT) A) ([.ref (hT 0)] : List Value).toArray s 0 0 A := ⟨_, rfl⟩
  rw [← hQQ]
  unfold MX3_allPlots at hM
  suffices hI : ∀ (H : Heap) (locs : List Loc), va_P D vwCl (cTold Y hT tT) H → va_S A s.heap H locs → W p l e (headSpec wsX3_allPlots rmX3_allPlots).room s m ([.ref (hT 0)] : List Value).toArray below meth c H locs 0 0 QQ (F0 m 0 ls []) from hI _ _ hP hS
  clear hP hS
  intro H locs hP hS
  refine lv_iconst (v := (1 : Int32)) hx hb dX3_allPlots_0 (by decide) ?_
  refine lv_aload_n hx hb dX3_allPlots_1 rfl (lv_at hl 0 rfl) ?_
  refine va_get hx hb hts hi3 hown hK hP 0 rfl rfl 0 (by decide) (hts (.fieldLink RX3 37 "NightPlots$Told" "plots" "I") (List.mem_of_getElem? (i := 1) rfl)) (fun _ h9 => h9) rfl dX3_allPlots_2 ?_
  refine lv_ishl hx hb dX3_allPlots_5 ?_
  refine lv_iconst (v := (1 : Int32)) hx hb dX3_allPlots_6 (by decide) ?_
  refine lv_isub hx hb dX3_allPlots_7 ?_
  cases hM
  rw [hQQ]
  exact W.iret hx hb hr (fun t ht hW => ⟨⟨_, (), rfl, rfl, by show va_P D vwCl _ t.heap; rw [ht]; exact hP⟩, hS.F ht⟩) hS.2.2 dX3_allPlots_8
noncomputable def MX3_ground (tT : GS) (i1 : Int32) (i2 : Int32) : Option (Int32) := jn1 (fun (x1 : Int32) => some (x1)) (fun k2 => if i1 = (3 : Int32) then (bnd1 (MX3_next tT i2) fun (r4 : Int32) => k2 (((1 : Int32) <<< (i2 &&& 31)) ||| ((1 : Int32) <<< (r4 &&& 31)))) else (k2 ((1 : Int32) <<< (i2 &&& 31))))
abbrev rmX3_ground : Room := { frames := 2, cells := 0, slots := 0, locals := 80 }
set_option maxHeartbeats 4000000 in
set_option maxRecDepth 100000 in
theorem ctX3_ground (l : Launch) (D : va_G) (Y : Nat → ClassId) (hT : Nat → Nat) (sz : Nat) (tT : GS) (i1 : Int32) (i2 : Int32) (rr : Int32) (hM : MX3_ground tT i1 i2 = some (rr)) : Met l yX3_ground wsX3_ground rmX3_ground (pcW [.ref (hT 0), .int i1, .int i2] sz D Y (cTold Y hT tT)) (qiW rr D (cTold Y hT tT) (va_A (cTold Y hT tT) sz)) 0 0 (va_A (cTold Y hT tT) sz) := by
  refine Met.ofW (cc := cX3_ground) (maxL := 3) (ret := (some .int)) (by decide) rfl ?_
  intro p e s m args below meth c s₁ B hml hv
  obtain ⟨rfl, hsz, hP, hK, hD0⟩ := hv
  have hx := B.exec
  have hb := B.bytes
  have hr := B.returns
  have hts := atoms_spec (ws := wsX3_ground) B.pre
  have hown : s.vm.findClass RX3 = some m.cls := findClass_of_methodNamed B.named
  have hlocks := B.notSynchronized
  subst hsz
  have hD := hD0.self (sz := s.heap.size)
  generalize hAe : va_A (cTold Y hT tT) s.heap.size = A at hD ⊢
  have hA : ∀ q : Nat, s.heap.size ≤ q → A q := fun q h => by rw [← hAe]; exact Or.inr h
  have hS : va_S A s.heap s.heap [] := va_S.rf
  have hl := lv_entry ([.ref (hT 0), .int i1, .int i2]) (n := 3) (Nat.le_of_ble_eq_true rfl)
  rw [lg_entry_eq]
  generalize (lg_sl ([.ref (hT 0), .int i1, .int i2]) ++ List.replicate (3 - (lg_sl ([.ref (hT 0), .int i1, .int i2])).length) Slot.unset).toArray = ls at hl ⊢
  have hl : lv_has ls 3 [(0, .ref (hT 0)), (1, .int i1), (2, .int i2)] := hl
  obtain ⟨QQ, hQQ⟩ : ∃ Q : State → Prop, Q = MQ below (qiW rr D (cTold Y hT tT) A) ([.ref (hT 0), .int i1, .int i2] : List Value).toArray s 0 0 A := ⟨_, rfl⟩
  rw [← hQQ]
  unfold MX3_ground at hM
  suffices hI : ∀ (H : Heap) (locs : List Loc), va_P D vwCl (cTold Y hT tT) H → va_S A s.heap H locs → W p l e (headSpec wsX3_ground rmX3_ground).room s m ([.ref (hT 0), .int i1, .int i2] : List Value).toArray below meth c H locs 0 0 QQ (F0 m 0 ls []) from hI _ _ hP hS
  clear hP hS
  intro H locs hP hS
  refine lv_iload_n hx hb dX3_ground_0 rfl (lv_at hl 1 rfl) ?_
  refine lv_iconst (v := (3 : Int32)) hx hb dX3_ground_1 (by decide) ?_
  refine jn1_at (fun (x1 : Int32) => ∀ (H : Heap) (locs : List Loc) (ls : Array Slot), va_P D vwCl (cTold Y hT tT) H → va_S A s.heap H locs → lv_has ls 3 [] → W p l e (headSpec wsX3_ground rmX3_ground).room s m ([.ref (hT 0), .int i1, .int i2] : List Value).toArray below meth c H locs 0 0 QQ (F0 m 22 ls [.int x1])) hM (fun x1 hM H locs ls hP hS hl => ?_) (fun k2 hJ2 hM => ?_)
  · cases hM
    rw [hQQ]
    exact W.iret hx hb hr (fun t ht hW => ⟨⟨_, (), rfl, rfl, by show va_P D vwCl _ t.heap; rw [ht]; exact hP⟩, hS.F ht⟩) hS.2.2 dX3_ground_22
  · refine lv_icmp_ne (tgt := 19) hx hb dX3_ground_2 (by decide) (fun c3 => ?_) (fun c3 => ?_)
    · replace hM := if_at_neg hM c3
      refine lv_iconst (v := (1 : Int32)) hx hb dX3_ground_19 (by decide) ?_
      refine lv_iload_n hx hb dX3_ground_20 rfl (lv_at hl 2 rfl) ?_
      refine lv_ishl hx hb dX3_ground_21 ?_
      exact hJ2 ((1 : Int32) <<< (i2 &&& 31)) hM H locs ls hP hS (lv_sub hl [] rfl)
    · replace hM := if_at_pos hM c3
      refine lv_iconst (v := (1 : Int32)) hx hb dX3_ground_5 (by decide) ?_
      refine lv_iload_n hx hb dX3_ground_6 rfl (lv_at hl 2 rfl) ?_
      refine lv_ishl hx hb dX3_ground_7 ?_
      refine lv_iconst (v := (1 : Int32)) hx hb dX3_ground_8 (by decide) ?_
      refine lv_aload_n hx hb dX3_ground_9 rfl (lv_at hl 0 rfl) ?_
      refine lv_iload_n hx hb dX3_ground_10 rfl (lv_at hl 2 rfl) ?_
      obtain ⟨r4, hc5, hM⟩ := bnd1_at hM
      refine co_i (va_runV (As := [.int i2]) (rest := [.int (1 : Int32), .int ((1 : Int32) <<< (i2 &&& 31))]) ⟨hx, hb, hml, hown, hts⟩ (ctX3_next l D Y hT H.size tT i2 r4 hc5) (cwV 1 hts gX3_ground_X3_next rfl rfl rfl (by decide +kernel) ⟨Nat.le_of_ble_eq_true rfl, Nat.le_of_ble_eq_true rfl⟩) (pcW_V0 (ci := 3) (q0 := 0) hK hP (hD.same rfl) rfl rfl) rfl rfl hl.1 rfl (lv_room (Nat.le_of_ble_eq_true rfl)) dX3_ground_11 ⟨Nat.zero_le _, Nat.zero_le _⟩) (hD.same rfl) hS hA (fun H locs hP hS => ?_)
      refine lv_ishl hx hb dX3_ground_14 ?_
      refine lv_ior hx hb dX3_ground_15 ?_
      refine lv_goto (tgt := 22) hx hb dX3_ground_16 (by decide) ?_
      exact hJ2 (((1 : Int32) <<< (i2 &&& 31)) ||| ((1 : Int32) <<< (r4 &&& 31))) hM H locs ls hP hS (lv_sub hl [] rfl)
noncomputable def MX3_around (tT : GS) (i1 : Int32) : Option (Int32) := nm ((i1 <<< ((1 : Int32) &&& 31)) ||| (i1 >>> (((tT 0 0) - (1 : Int32)) &&& 31))) fun (x1 : Int32) => nm ((i1 >>> ((1 : Int32) &&& 31)) ||| (i1 <<< (((tT 0 0) - (1 : Int32)) &&& 31))) fun (x2 : Int32) => bnd1 (MX3_allPlots tT) fun (r3 : Int32) => some (((x1 ||| x2) &&& r3))
abbrev rmX3_around : Room := { frames := 2, cells := 0, slots := 0, locals := 80 }
set_option maxHeartbeats 4000000 in
set_option maxRecDepth 100000 in
theorem ctX3_around (l : Launch) (D : va_G) (Y : Nat → ClassId) (hT : Nat → Nat) (sz : Nat) (tT : GS) (i1 : Int32) (rr : Int32) (hM : MX3_around tT i1 = some (rr)) : Met l yX3_around wsX3_around rmX3_around (pcW [.ref (hT 0), .int i1] sz D Y (cTold Y hT tT)) (qiW rr D (cTold Y hT tT) (va_A (cTold Y hT tT) sz)) 0 0 (va_A (cTold Y hT tT) sz) := by
  refine Met.ofW (cc := cX3_around) (maxL := 4) (ret := (some .int)) (by decide) rfl ?_
  intro p e s m args below meth c s₁ B hml hv
  obtain ⟨rfl, hsz, hP, hK, hD0⟩ := hv
  have hx := B.exec
  have hb := B.bytes
  have hr := B.returns
  have hts := atoms_spec (ws := wsX3_around) B.pre
  have hown : s.vm.findClass RX3 = some m.cls := findClass_of_methodNamed B.named
  have hlocks := B.notSynchronized
  subst hsz
  have hD := hD0.self (sz := s.heap.size)
  generalize hAe : va_A (cTold Y hT tT) s.heap.size = A at hD ⊢
  have hA : ∀ q : Nat, s.heap.size ≤ q → A q := fun q h => by rw [← hAe]; exact Or.inr h
  have hS : va_S A s.heap s.heap [] := va_S.rf
  have hi3 : ∀ w ∈ wsX30, w ∈ wsX3_around := fun w h => List.mem_cons_of_mem _ (List.mem_append_right _ h)
  have hl := lv_entry ([.ref (hT 0), .int i1]) (n := 4) (Nat.le_of_ble_eq_true rfl)
  rw [lg_entry_eq]
  generalize (lg_sl ([.ref (hT 0), .int i1]) ++ List.replicate (4 - (lg_sl ([.ref (hT 0), .int i1])).length) Slot.unset).toArray = ls at hl ⊢
  have hl : lv_has ls 4 [(0, .ref (hT 0)), (1, .int i1)] := hl
  obtain ⟨QQ, hQQ⟩ : ∃ Q : State → Prop, Q = MQ below (qiW rr D (cTold Y hT tT) A) ([.ref (hT 0), .int i1] : List Value).toArray s 0 0 A := ⟨_, rfl⟩
  rw [← hQQ]
  unfold MX3_around at hM
  suffices hI : ∀ (H : Heap) (locs : List Loc), va_P D vwCl (cTold Y hT tT) H → va_S A s.heap H locs → W p l e (headSpec wsX3_around rmX3_around).room s m ([.ref (hT 0), .int i1] : List Value).toArray below meth c H locs 0 0 QQ (F0 m 0 ls []) from hI _ _ hP hS
  clear hP hS
  intro H locs hP hS
  refine lv_iload_n hx hb dX3_around_0 rfl (lv_at hl 1 rfl) ?_
  refine lv_iconst (v := (1 : Int32)) hx hb dX3_around_1 (by decide) ?_
  refine lv_ishl hx hb dX3_around_2 ?_
  refine lv_iload_n hx hb dX3_around_3 rfl (lv_at hl 1 rfl) ?_
  refine lv_aload_n hx hb dX3_around_4 rfl (lv_at hl 0 rfl) ?_
  refine va_get hx hb hts hi3 hown hK hP 0 rfl rfl 0 (by decide) (hts (.fieldLink RX3 37 "NightPlots$Told" "plots" "I") (List.mem_of_getElem? (i := 1) rfl)) (fun _ h9 => h9) rfl dX3_around_5 ?_
  refine lv_iconst (v := (1 : Int32)) hx hb dX3_around_8 (by decide) ?_
  refine lv_isub hx hb dX3_around_9 ?_
  refine lv_ishr hx hb dX3_around_10 ?_
  refine lv_ior hx hb dX3_around_11 ?_
  refine lv_topi (fun x1 ex1 => ?_)
  replace hM := nm_at hM ex1
  refine lv_istore_n (lv' := [(2, .int x1), (0, .ref (hT 0)), (1, .int i1)]) hx hb dX3_around_12 rfl hl (by decide) rfl (fun ls hl => ?_)
  refine lv_iload_n hx hb dX3_around_13 rfl (lv_at hl 2 rfl) ?_
  refine lv_iconst (v := (1 : Int32)) hx hb dX3_around_14 (by decide) ?_
  refine lv_ishr hx hb dX3_around_15 ?_
  refine lv_iload_n hx hb dX3_around_16 rfl (lv_at hl 2 rfl) ?_
  refine lv_aload_n hx hb dX3_around_17 rfl (lv_at hl 1 rfl) ?_
  refine va_get hx hb hts hi3 hown hK hP 0 rfl rfl 0 (by decide) (hts (.fieldLink RX3 37 "NightPlots$Told" "plots" "I") (List.mem_of_getElem? (i := 1) rfl)) (fun _ h9 => h9) rfl dX3_around_18 ?_
  refine lv_iconst (v := (1 : Int32)) hx hb dX3_around_21 (by decide) ?_
  refine lv_isub hx hb dX3_around_22 ?_
  refine lv_ishl hx hb dX3_around_23 ?_
  refine lv_ior hx hb dX3_around_24 ?_
  refine lv_topi (fun x2 ex2 => ?_)
  replace hM := nm_at hM ex2
  refine lv_istore_n (lv' := [(3, .int x2), (2, .int x1), (0, .ref (hT 0)), (1, .int i1)]) hx hb dX3_around_25 rfl hl (by decide) rfl (fun ls hl => ?_)
  refine lv_iload_n hx hb dX3_around_26 rfl (lv_at hl 1 rfl) ?_
  refine lv_iload_n hx hb dX3_around_27 rfl (lv_at hl 0 rfl) ?_
  refine lv_ior hx hb dX3_around_28 ?_
  refine lv_aload_n hx hb dX3_around_29 rfl (lv_at hl 2 rfl) ?_
  obtain ⟨r3, hc4, hM⟩ := bnd1_at hM
  refine co_i (va_runV (As := []) (rest := [.int (x1 ||| x2)]) ⟨hx, hb, hml, hown, hts⟩ (ctX3_allPlots l D Y hT H.size tT r3 hc4) (cwV 0 hts gX3_around_X3_allPlots rfl rfl rfl (by decide +kernel) ⟨Nat.le_of_ble_eq_true rfl, Nat.le_of_ble_eq_true rfl⟩) (pcW_V0 (ci := 3) (q0 := 0) hK hP (hD.same rfl) rfl rfl) rfl rfl hl.1 rfl (lv_room (Nat.le_of_ble_eq_true rfl)) dX3_around_30 ⟨Nat.zero_le _, Nat.zero_le _⟩) (hD.same rfl) hS hA (fun H locs hP hS => ?_)
  refine lv_iand hx hb dX3_around_33 ?_
  cases hM
  rw [hQQ]
  exact W.iret hx hb hr (fun t ht hW => ⟨⟨_, (), rfl, rfl, by show va_P D vwCl _ t.heap; rw [ht]; exact hP⟩, hS.F ht⟩) hS.2.2 dX3_around_34
noncomputable def BX3_stuckOnes_4 (tT : GS) (k2 : Int32 → Option (Int32)) (rec5 : Int32 → Int32 → Option (Int32)) (x3 : Int32) (x4 : Int32) : Option (Int32) := if (tT 0 1) ≤ x4 then (k2 x3) else (chkI x4 8 (jn1 (fun (x8 : Int32) => nm (x4 + 1) fun (x10 : Int32) => rec5 x8 x10) (fun k9 => if (tT 2 x4.toNatClampNeg) = (2 : Int32) then (nm (x3 ||| ((1 : Int32) <<< (x4 &&& 31))) fun (x12 : Int32) => k9 x12) else (k9 x3))))
noncomputable def MX3_stuckOnes (tT : GS) : Option (Int32) := jn1 (fun (x1 : Int32) => some (x1)) (fun k2 => lq2 (BX3_stuckOnes_4 tT k2) FU (0 : Int32) (0 : Int32))
abbrev rmX3_stuckOnes : Room := { frames := 1, cells := 0, slots := 0, locals := 40 }
set_option maxHeartbeats 4000000 in
set_option maxRecDepth 100000 in
theorem ctX3_stuckOnes (l : Launch) (D : va_G) (Y : Nat → ClassId) (hT : Nat → Nat) (sz : Nat) (tT : GS) (rr : Int32) (hM : MX3_stuckOnes tT = some (rr)) : Met l yX3_stuckOnes wsX3_stuckOnes rmX3_stuckOnes (pcW [.ref (hT 0)] sz D Y (cTold Y hT tT)) (qiW rr D (cTold Y hT tT) (va_A (cTold Y hT tT) sz)) 0 0 (va_A (cTold Y hT tT) sz) := by
  refine Met.ofW (cc := cX3_stuckOnes) (maxL := 3) (ret := (some .int)) (by decide) rfl ?_
  intro p e s m args below meth c s₁ B hml hv
  obtain ⟨rfl, hsz, hP, hK, hD0⟩ := hv
  have hx := B.exec
  have hb := B.bytes
  have hr := B.returns
  have hts := atoms_spec (ws := wsX3_stuckOnes) B.pre
  have hown : s.vm.findClass RX3 = some m.cls := findClass_of_methodNamed B.named
  have hlocks := B.notSynchronized
  subst hsz
  have hD := hD0.self (sz := s.heap.size)
  generalize hAe : va_A (cTold Y hT tT) s.heap.size = A at hD ⊢
  have hA : ∀ q : Nat, s.heap.size ≤ q → A q := fun q h => by rw [← hAe]; exact Or.inr h
  have hS : va_S A s.heap s.heap [] := va_S.rf
  have hi3 : ∀ w ∈ wsX30, w ∈ wsX3_stuckOnes := fun w h => List.mem_cons_of_mem _ (List.mem_append_right _ h)
  have hl := lv_entry ([.ref (hT 0)]) (n := 3) (Nat.le_of_ble_eq_true rfl)
  rw [lg_entry_eq]
  generalize (lg_sl ([.ref (hT 0)]) ++ List.replicate (3 - (lg_sl ([.ref (hT 0)])).length) Slot.unset).toArray = ls at hl ⊢
  have hl : lv_has ls 3 [(0, .ref (hT 0))] := hl
  obtain ⟨QQ, hQQ⟩ : ∃ Q : State → Prop, Q = MQ below (qiW rr D (cTold Y hT tT) A) ([.ref (hT 0)] : List Value).toArray s 0 0 A := ⟨_, rfl⟩
  rw [← hQQ]
  unfold MX3_stuckOnes at hM
  suffices hI : ∀ (H : Heap) (locs : List Loc), va_P D vwCl (cTold Y hT tT) H → va_S A s.heap H locs → W p l e (headSpec wsX3_stuckOnes rmX3_stuckOnes).room s m ([.ref (hT 0)] : List Value).toArray below meth c H locs 0 0 QQ (F0 m 0 ls []) from hI _ _ hP hS
  clear hP hS
  intro H locs hP hS
  refine lv_iconst (v := (0 : Int32)) hx hb dX3_stuckOnes_0 (by decide) ?_
  refine lv_istore_n (lv' := [(1, .int (0 : Int32)), (0, .ref (hT 0))]) hx hb dX3_stuckOnes_1 rfl hl (by decide) rfl (fun ls hl => ?_)
  refine lv_iconst (v := (0 : Int32)) hx hb dX3_stuckOnes_2 (by decide) ?_
  refine lv_istore_n (lv' := [(2, .int (0 : Int32)), (1, .int (0 : Int32)), (0, .ref (hT 0))]) hx hb dX3_stuckOnes_3 rfl hl (by decide) rfl (fun ls hl => ?_)
  refine jn1_at (fun (x1 : Int32) => ∀ (H : Heap) (locs : List Loc) (ls : Array Slot), va_P D vwCl (cTold Y hT tT) H → va_S A s.heap H locs → lv_has ls 3 [(1, .int x1)] → W p l e (headSpec wsX3_stuckOnes rmX3_stuckOnes).room s m ([.ref (hT 0)] : List Value).toArray below meth c H locs 0 0 QQ (F0 m 34 ls [])) hM (fun x1 hM H locs ls hP hS hl => ?_) (fun k2 hJ2 hM => ?_)
  · refine lv_iload_n hx hb dX3_stuckOnes_34 rfl (lv_at hl 0 rfl) ?_
    cases hM
    rw [hQQ]
    exact W.iret hx hb hr (fun t ht hW => ⟨⟨_, (), rfl, rfl, by show va_P D vwCl _ t.heap; rw [ht]; exact hP⟩, hS.F ht⟩) hS.2.2 dX3_stuckOnes_35
  · refine lq2_at (fun (x3 : Int32) (x4 : Int32) => ∀ (H : Heap) (locs : List Loc) (ls : Array Slot), va_P D vwCl (cTold Y hT tT) H → va_S A s.heap H locs → lv_has ls 3 [(0, .ref (hT 0)), (1, .int x3), (2, .int x4)] → W p l e (headSpec wsX3_stuckOnes rmX3_stuckOnes).room s m ([.ref (hT 0)] : List Value).toArray below meth c H locs 0 0 QQ (F0 m 4 ls [])) (fun rec5 x3 x4 ih5 hM H locs ls hP hS hl => ?_) FU (0 : Int32) (0 : Int32) hM H locs ls hP hS (lv_sub hl [2, 1, 0] rfl)
    unfold BX3_stuckOnes_4 at hM
    refine lv_iload_n hx hb dX3_stuckOnes_4 rfl (lv_at hl 2 rfl) ?_
    refine lv_aload_n hx hb dX3_stuckOnes_5 rfl (lv_at hl 0 rfl) ?_
    refine va_get hx hb hts hi3 hown hK hP 0 rfl rfl 1 (by decide) (hts (.fieldLink RX3 59 "NightPlots$Told" "houses" "I") (List.mem_of_getElem? (i := 1) rfl)) (fun _ h9 => h9) rfl dX3_stuckOnes_6 ?_
    refine lv_icmp_ge (tgt := 34) hx hb dX3_stuckOnes_9 (by decide) (fun c6 => ?_) (fun c6 => ?_)
    · replace hM := if_at_pos hM c6
      exact hJ2 x3 hM H locs ls hP hS (lv_sub hl [1] rfl)
    · replace hM := if_at_neg hM c6
      refine lv_aload_n hx hb dX3_stuckOnes_12 rfl (lv_at hl 0 rfl) ?_
      refine va_get hx hb hts hi3 hown hK hP 0 rfl rfl 8 (by decide) (hts (.fieldLink RX3 15 "NightPlots$Told" "kind" "[I") (List.mem_of_getElem? (i := 2) rfl)) (fun _ h9 => h9) rfl dX3_stuckOnes_13 ?_
      refine lv_iload_n hx hb dX3_stuckOnes_16 rfl (lv_at hl 2 rfl) ?_
      obtain ⟨hi_7, hM⟩ := chkI_at hM
      refine va_iald hx hb hK hP 2 0 rfl rfl hi_7 dX3_stuckOnes_17 ?_
      refine lv_iconst (v := (2 : Int32)) hx hb dX3_stuckOnes_18 (by decide) ?_
      refine jn1_at (fun (x8 : Int32) => ∀ (H : Heap) (locs : List Loc) (ls : Array Slot), va_P D vwCl (cTold Y hT tT) H → va_S A s.heap H locs → lv_has ls 3 [(0, .ref (hT 0)), (1, .int x8), (2, .int x4)] → W p l e (headSpec wsX3_stuckOnes rmX3_stuckOnes).room s m ([.ref (hT 0)] : List Value).toArray below meth c H locs 0 0 QQ (F0 m 28 ls [])) hM (fun x8 hM H locs ls hP hS hl => ?_) (fun k9 hJ9 hM => ?_)
      · obtain ⟨x10, ex10⟩ : ∃ z : Int32, z = (x4 + 1) := ⟨_, rfl⟩
        replace hM := nm_at hM ex10
        refine lv_iinc (v := x10) (lv' := [(2, .int x10), (0, .ref (hT 0)), (1, .int x8)]) hx hb dX3_stuckOnes_28 hl (k := 2) rfl (by rw [ex10]; rfl) (by decide) rfl (fun ls hl => ?_)
        refine lv_goto (tgt := 4) hx hb dX3_stuckOnes_31 (by decide) ?_
        exact ih5 x8 x10 hM H locs ls hP hS (lv_sub hl [1, 2, 0] rfl)
      · refine lv_icmp_ne (tgt := 28) hx hb dX3_stuckOnes_19 (by decide) (fun c11 => ?_) (fun c11 => ?_)
        · replace hM := if_at_neg hM c11
          exact hJ9 x3 hM H locs ls hP hS (lv_sub hl [0, 1, 2] rfl)
        · replace hM := if_at_pos hM c11
          refine lv_iload_n hx hb dX3_stuckOnes_22 rfl (lv_at hl 1 rfl) ?_
          refine lv_iconst (v := (1 : Int32)) hx hb dX3_stuckOnes_23 (by decide) ?_
          refine lv_iload_n hx hb dX3_stuckOnes_24 rfl (lv_at hl 2 rfl) ?_
          refine lv_ishl hx hb dX3_stuckOnes_25 ?_
          refine lv_ior hx hb dX3_stuckOnes_26 ?_
          refine lv_topi (fun x12 ex12 => ?_)
          replace hM := nm_at hM ex12
          refine lv_istore_n (lv' := [(1, .int x12), (0, .ref (hT 0)), (2, .int x4)]) hx hb dX3_stuckOnes_27 rfl hl (by decide) rfl (fun ls hl => ?_)
          exact hJ9 x12 hM H locs ls hP hS (lv_sub hl [1, 0, 2] rfl)
noncomputable def MX3_removeHouses (tT : GS) : Option (GS) := nm (up2 tT 0 1 (0 : Int32)) fun (tT_1 : GS) => nm (up2 tT_1 0 3 (0 : Int32)) fun (tT_2 : GS) => nm (up2 tT_2 0 6 (0 : Int32)) fun (tT_3 : GS) => some (tT_3)
abbrev rmX3_removeHouses : Room := { frames := 1, cells := 0, slots := 0, locals := 40 }
set_option maxHeartbeats 4000000 in
set_option maxRecDepth 100000 in
theorem ctX3_removeHouses (l : Launch) (D : va_G) (Y : Nat → ClassId) (hT : Nat → Nat) (sz : Nat) (tT : GS) (tTz : GS) (hM : MX3_removeHouses tT = some (tTz)) : Met l yX3_removeHouses wsX3_removeHouses rmX3_removeHouses (pcW [.ref (hT 0)] sz D Y (cTold Y hT tT)) (qvW D (cTold Y hT tTz) (va_A (cTold Y hT tT) sz)) 0 0 (va_A (cTold Y hT tT) sz) := by
  refine Met.ofW (cc := cX3_removeHouses) (maxL := 1) (ret := (none)) (by decide) rfl ?_
  intro p e s m args below meth c s₁ B hml hv
  obtain ⟨rfl, hsz, hP, hK, hD0⟩ := hv
  have hx := B.exec
  have hb := B.bytes
  have hr := B.returns
  have hts := atoms_spec (ws := wsX3_removeHouses) B.pre
  have hown : s.vm.findClass RX3 = some m.cls := findClass_of_methodNamed B.named
  have hlocks := B.notSynchronized
  subst hsz
  have hD := hD0.self (sz := s.heap.size)
  generalize hAe : va_A (cTold Y hT tT) s.heap.size = A at hD ⊢
  have hA : ∀ q : Nat, s.heap.size ≤ q → A q := fun q h => by rw [← hAe]; exact Or.inr h
  have hS : va_S A s.heap s.heap [] := va_S.rf
  have hi3 : ∀ w ∈ wsX30, w ∈ wsX3_removeHouses := fun w h => List.mem_cons_of_mem _ (List.mem_append_right _ h)
  have hl := lv_entry ([.ref (hT 0)]) (n := 1) (Nat.le_of_ble_eq_true rfl)
  rw [lg_entry_eq]
  generalize (lg_sl ([.ref (hT 0)]) ++ List.replicate (1 - (lg_sl ([.ref (hT 0)])).length) Slot.unset).toArray = ls at hl ⊢
  have hl : lv_has ls 1 [(0, .ref (hT 0))] := hl
  obtain ⟨QQ, hQQ⟩ : ∃ Q : State → Prop, Q = MQ below (qvW D (cTold Y hT tTz) A) ([.ref (hT 0)] : List Value).toArray s 0 0 A := ⟨_, rfl⟩
  rw [← hQQ]
  unfold MX3_removeHouses at hM
  suffices hI : ∀ (H : Heap) (locs : List Loc), va_P D vwCl (cTold Y hT tT) H → va_S A s.heap H locs → W p l e (headSpec wsX3_removeHouses rmX3_removeHouses).room s m ([.ref (hT 0)] : List Value).toArray below meth c H locs 0 0 QQ (F0 m 0 ls []) from hI _ _ hP hS
  clear hP hS
  intro H locs hP hS
  refine lv_aload_n hx hb dX3_removeHouses_0 rfl (lv_at hl 0 rfl) ?_
  refine lv_iconst (v := (0 : Int32)) hx hb dX3_removeHouses_1 (by decide) ?_
  refine va_put (ty := .int) hx hb hts hi3 tyX3 tyX3_ok nmX3 hown hK hP (hD.same rfl) hS 0 rfl rfl 1 (by decide) (hts (.fieldLink RX3 59 "NightPlots$Told" "houses" "I") (List.mem_of_getElem? (i := 1) rfl)) (fun _ h9 => h9) rfl (by decide +kernel) rfl rfl (Nat.le_of_ble_eq_true rfl) dX3_removeHouses_2 (fun H locs hP _ hS => ?_)
  obtain ⟨tT_1, etT_1⟩ : ∃ z : GS, z = (up2 tT 0 1 (0 : Int32)) := ⟨_, rfl⟩
  have hP : va_P D vwCl (cTold Y hT tT_1) H := by rw [etT_1]; exact hP
  replace hM := nm_at hM etT_1
  refine lv_aload_n hx hb dX3_removeHouses_5 rfl (lv_at hl 0 rfl) ?_
  refine lv_iconst (v := (0 : Int32)) hx hb dX3_removeHouses_6 (by decide) ?_
  refine va_put (ty := .int) hx hb hts hi3 tyX3 tyX3_ok nmX3 hown hK hP (hD.same rfl) hS 0 rfl rfl 3 (by decide) (hts (.fieldLink RX3 62 "NightPlots$Told" "feuds" "I") (List.mem_of_getElem? (i := 2) rfl)) (fun _ h9 => h9) rfl (by decide +kernel) rfl rfl (Nat.le_of_ble_eq_true rfl) dX3_removeHouses_7 (fun H locs hP _ hS => ?_)
  obtain ⟨tT_2, etT_2⟩ : ∃ z : GS, z = (up2 tT_1 0 3 (0 : Int32)) := ⟨_, rfl⟩
  have hP : va_P D vwCl (cTold Y hT tT_2) H := by rw [etT_2]; exact hP
  replace hM := nm_at hM etT_2
  refine lv_aload_n hx hb dX3_removeHouses_10 rfl (lv_at hl 0 rfl) ?_
  refine lv_iconst (v := (0 : Int32)) hx hb dX3_removeHouses_11 (by decide) ?_
  refine va_put (ty := .int) hx hb hts hi3 tyX3 tyX3_ok nmX3 hown hK hP (hD.same rfl) hS 0 rfl rfl 6 (by decide) (hts (.fieldLink RX3 65 "NightPlots$Told" "taken" "I") (List.mem_of_getElem? (i := 3) rfl)) (fun _ h9 => h9) rfl (by decide +kernel) rfl rfl (Nat.le_of_ble_eq_true rfl) dX3_removeHouses_12 (fun H locs hP _ hS => ?_)
  obtain ⟨tT_3, etT_3⟩ : ∃ z : GS, z = (up2 tT_2 0 6 (0 : Int32)) := ⟨_, rfl⟩
  have hP : va_P D vwCl (cTold Y hT tT_3) H := by rw [etT_3]; exact hP
  replace hM := nm_at hM etT_3
  cases hM
  rw [hQQ]
  exact W.vret hx hb hr (fun t ht hW => ⟨⟨(), rfl, trivial, by show va_P D vwCl _ t.heap; rw [ht]; exact hP⟩, hS.F ht⟩) hS.2.2 dX3_removeHouses_15
noncomputable def MX3_layOut (tT : GS) (i1 : Int32) : Option (GS) := nm (up2 tT 0 0 i1) fun (tT_1 : GS) => nm (up2 tT_1 0 2 (0 : Int32)) fun (tT_2 : GS) => nm (up2 tT_2 0 4 (0 : Int32)) fun (tT_3 : GS) => nm (up2 tT_3 0 5 (1 : Int32)) fun (tT_4 : GS) => bnd1 (MJ7_fill_53178 (12) (tT_4 1) (1 : Int32)) fun (fR_5 : Nat → Int32) => nm (upA tT_4 1 fR_5) fun (tT_7 : GS) => bnd1 (MX3_removeHouses tT_7) fun (tT_8 : GS) => some (tT_8)
abbrev rmX3_layOut : Room := { frames := 2, cells := 0, slots := 0, locals := 80 }
set_option maxHeartbeats 4000000 in
set_option maxRecDepth 100000 in
theorem ctX3_layOut (l : Launch) (D : va_G) (Y : Nat → ClassId) (hT : Nat → Nat) (sz : Nat) (tT : GS) (i1 : Int32) (tTz : GS) (hM : MX3_layOut tT i1 = some (tTz)) : Met l yX3_layOut wsX3_layOut rmX3_layOut (pcW [.ref (hT 0), .int i1] sz D Y (cTold Y hT tT)) (qvW D (cTold Y hT tTz) (va_A (cTold Y hT tT) sz)) 0 0 (va_A (cTold Y hT tT) sz) := by
  refine Met.ofW (cc := cX3_layOut) (maxL := 2) (ret := (none)) (by decide) rfl ?_
  intro p e s m args below meth c s₁ B hml hv
  obtain ⟨rfl, hsz, hP, hK, hD0⟩ := hv
  have hx := B.exec
  have hb := B.bytes
  have hr := B.returns
  have hts := atoms_spec (ws := wsX3_layOut) B.pre
  have hown : s.vm.findClass RX3 = some m.cls := findClass_of_methodNamed B.named
  have hlocks := B.notSynchronized
  subst hsz
  have hD := hD0.self (sz := s.heap.size)
  generalize hAe : va_A (cTold Y hT tT) s.heap.size = A at hD ⊢
  have hA : ∀ q : Nat, s.heap.size ≤ q → A q := fun q h => by rw [← hAe]; exact Or.inr h
  have hS : va_S A s.heap s.heap [] := va_S.rf
  have hi3 : ∀ w ∈ wsX30, w ∈ wsX3_layOut := fun w h => List.mem_cons_of_mem _ (List.mem_append_right _ h)
  have hl := lv_entry ([.ref (hT 0), .int i1]) (n := 2) (Nat.le_of_ble_eq_true rfl)
  rw [lg_entry_eq]
  generalize (lg_sl ([.ref (hT 0), .int i1]) ++ List.replicate (2 - (lg_sl ([.ref (hT 0), .int i1])).length) Slot.unset).toArray = ls at hl ⊢
  have hl : lv_has ls 2 [(0, .ref (hT 0)), (1, .int i1)] := hl
  obtain ⟨QQ, hQQ⟩ : ∃ Q : State → Prop, Q = MQ below (qvW D (cTold Y hT tTz) A) ([.ref (hT 0), .int i1] : List Value).toArray s 0 0 A := ⟨_, rfl⟩
  rw [← hQQ]
  unfold MX3_layOut at hM
  suffices hI : ∀ (H : Heap) (locs : List Loc), va_P D vwCl (cTold Y hT tT) H → va_S A s.heap H locs → W p l e (headSpec wsX3_layOut rmX3_layOut).room s m ([.ref (hT 0), .int i1] : List Value).toArray below meth c H locs 0 0 QQ (F0 m 0 ls []) from hI _ _ hP hS
  clear hP hS
  intro H locs hP hS
  refine lv_aload_n hx hb dX3_layOut_0 rfl (lv_at hl 0 rfl) ?_
  refine lv_iload_n hx hb dX3_layOut_1 rfl (lv_at hl 1 rfl) ?_
  refine va_put (ty := .int) hx hb hts hi3 tyX3 tyX3_ok nmX3 hown hK hP (hD.same rfl) hS 0 rfl rfl 0 (by decide) (hts (.fieldLink RX3 37 "NightPlots$Told" "plots" "I") (List.mem_of_getElem? (i := 1) rfl)) (fun _ h9 => h9) rfl (by decide +kernel) rfl rfl (Nat.le_of_ble_eq_true rfl) dX3_layOut_2 (fun H locs hP _ hS => ?_)
  obtain ⟨tT_1, etT_1⟩ : ∃ z : GS, z = (up2 tT 0 0 i1) := ⟨_, rfl⟩
  have hP : va_P D vwCl (cTold Y hT tT_1) H := by rw [etT_1]; exact hP
  replace hM := nm_at hM etT_1
  refine lv_aload_n hx hb dX3_layOut_5 rfl (lv_at hl 0 rfl) ?_
  refine lv_iconst (v := (0 : Int32)) hx hb dX3_layOut_6 (by decide) ?_
  refine va_put (ty := .int) hx hb hts hi3 tyX3 tyX3_ok nmX3 hown hK hP (hD.same rfl) hS 0 rfl rfl 2 (by decide) (hts (.fieldLink RX3 41 "NightPlots$Told" "paths" "I") (List.mem_of_getElem? (i := 2) rfl)) (fun _ h9 => h9) rfl (by decide +kernel) rfl rfl (Nat.le_of_ble_eq_true rfl) dX3_layOut_7 (fun H locs hP _ hS => ?_)
  obtain ⟨tT_2, etT_2⟩ : ∃ z : GS, z = (up2 tT_1 0 2 (0 : Int32)) := ⟨_, rfl⟩
  have hP : va_P D vwCl (cTold Y hT tT_2) H := by rw [etT_2]; exact hP
  replace hM := nm_at hM etT_2
  refine lv_aload_n hx hb dX3_layOut_10 rfl (lv_at hl 0 rfl) ?_
  refine lv_iconst (v := (0 : Int32)) hx hb dX3_layOut_11 (by decide) ?_
  refine va_put (ty := .int) hx hb hts hi3 tyX3 tyX3_ok nmX3 hown hK hP (hD.same rfl) hS 0 rfl rfl 4 (by decide) (hts (.fieldLink RX3 44 "NightPlots$Told" "law" "I") (List.mem_of_getElem? (i := 3) rfl)) (fun _ h9 => h9) rfl (by decide +kernel) rfl rfl (Nat.le_of_ble_eq_true rfl) dX3_layOut_12 (fun H locs hP _ hS => ?_)
  obtain ⟨tT_3, etT_3⟩ : ∃ z : GS, z = (up2 tT_2 0 4 (0 : Int32)) := ⟨_, rfl⟩
  have hP : va_P D vwCl (cTold Y hT tT_3) H := by rw [etT_3]; exact hP
  replace hM := nm_at hM etT_3
  refine lv_aload_n hx hb dX3_layOut_15 rfl (lv_at hl 0 rfl) ?_
  refine lv_iconst (v := (1 : Int32)) hx hb dX3_layOut_16 (by decide) ?_
  refine va_put (ty := .int) hx hb hts hi3 tyX3 tyX3_ok nmX3 hown hK hP (hD.same rfl) hS 0 rfl rfl 5 (by decide) (hts (.fieldLink RX3 47 "NightPlots$Told" "seed" "I") (List.mem_of_getElem? (i := 4) rfl)) (fun _ h9 => h9) rfl (by decide +kernel) rfl rfl (Nat.le_of_ble_eq_true rfl) dX3_layOut_17 (fun H locs hP _ hS => ?_)
  obtain ⟨tT_4, etT_4⟩ : ∃ z : GS, z = (up2 tT_3 0 5 (1 : Int32)) := ⟨_, rfl⟩
  have hP : va_P D vwCl (cTold Y hT tT_4) H := by rw [etT_4]; exact hP
  replace hM := nm_at hM etT_4
  refine lv_aload_n hx hb dX3_layOut_20 rfl (lv_at hl 0 rfl) ?_
  refine va_get hx hb hts hi3 hown hK hP 0 rfl rfl 7 (by decide) (hts (.fieldLink RX3 9 "NightPlots$Told" "crop" "[I") (List.mem_of_getElem? (i := 5) rfl)) (fun _ h9 => h9) rfl dX3_layOut_21 ?_
  refine lv_iconst (v := (1 : Int32)) hx hb dX3_layOut_24 (by decide) ?_
  obtain ⟨fR_5, hc6, hM⟩ := bnd1_at hM
  refine cm_v (w2 := (cTold Y hT (upA tT_4 1 fR_5))) (va_runS (As := [.ref (hT 1), .int (1 : Int32)]) (rest := []) ⟨hx, hb, hml, hown, hts⟩ (ctJ7_fill_53178 l D Y (hT 1) (12) H.size (tT_4 1) (1 : Int32) fR_5 hc6) ⟨callB_of 2 hts ggX3_layOut_J7_fill_53178 rfl rfl rfl (hts (.initialized RJ7) (List.mem_of_getElem? (i := 8) rfl)) (hts (.methodLink RX3 50 yJ7_fill_53178) (List.mem_of_getElem? (i := 6) rfl)) (by decide +kernel) ⟨Nat.le_of_ble_eq_true rfl, Nat.le_of_ble_eq_true rfl⟩, (hts (.static yJ7_fill_53178) (List.mem_of_getElem? (i := 7) rfl))⟩ (pcW_S hK hP (hD.same rfl) [1] rfl (pc_map (pc_cons rfl pc_nil))) rfl rfl hl.1 rfl (lv_room (Nat.le_of_ble_eq_true rfl)) dX3_layOut_25 ⟨Nat.zero_le _, Nat.zero_le _⟩) hP (hD.same rfl) hS hA [1] (pc_map (pc_cons rfl pc_nil)) (up_old rfl rfl (up_new 0 rfl (up_old rfl rfl (up_old rfl rfl (up_old rfl rfl (up_old rfl rfl (up_old rfl rfl (up_old rfl rfl up_nil)))))))) (fun H locs hP hS => ?_)
  obtain ⟨tT_7, etT_7⟩ : ∃ z : GS, z = (upA tT_4 1 fR_5) := ⟨_, rfl⟩
  have hP : va_P D vwCl (cTold Y hT tT_7) H := by rw [etT_7]; exact hP
  replace hM := nm_at hM etT_7
  refine lv_aload_n hx hb dX3_layOut_28 rfl (lv_at hl 0 rfl) ?_
  obtain ⟨tT_8, hc9, hM⟩ := bnd1_at hM
  refine co_v (va_runV (As := []) (rest := []) ⟨hx, hb, hml, hown, hts⟩ (ctX3_removeHouses l D Y hT H.size tT_7 tT_8 hc9) (cwV 0 hts gX3_layOut_X3_removeHouses rfl rfl rfl (by decide +kernel) ⟨Nat.le_of_ble_eq_true rfl, Nat.le_of_ble_eq_true rfl⟩) (pcW_V0 (ci := 3) (q0 := 0) hK hP (hD.same rfl) rfl rfl) rfl rfl hl.1 rfl (lv_room (Nat.le_of_ble_eq_true rfl)) dX3_layOut_29 ⟨Nat.zero_le _, Nat.zero_le _⟩) (hD.same rfl) hS hA (fun H locs hP hS => ?_)
  cases hM
  rw [hQQ]
  exact W.vret hx hb hr (fun t ht hW => ⟨⟨(), rfl, trivial, by show va_P D vwCl _ t.heap; rw [ht]; exact hP⟩, hS.F ht⟩) hS.2.2 dX3_layOut_32
noncomputable def MX3_copyFrom (tT : GS) (tO : GS) : Option (GS) := nm (tO 0 0) fun (x1 : Int32) => nm (up2 tT 0 0 x1) fun (tT_2 : GS) => nm (tO 0 1) fun (x3 : Int32) => nm (up2 tT_2 0 1 x3) fun (tT_4 : GS) => nm (tO 0 2) fun (x5 : Int32) => nm (up2 tT_4 0 2 x5) fun (tT_6 : GS) => nm (tO 0 3) fun (x7 : Int32) => nm (up2 tT_6 0 3 x7) fun (tT_8 : GS) => nm (tO 0 4) fun (x9 : Int32) => nm (up2 tT_8 0 4 x9) fun (tT_10 : GS) => nm (tO 0 5) fun (x11 : Int32) => nm (up2 tT_10 0 5 x11) fun (tT_12 : GS) => nm (tO 0 6) fun (x13 : Int32) => nm (up2 tT_12 0 6 x13) fun (tT_14 : GS) => chkC (0 : Int32) (0 : Int32) (12 : Int32) 12 12 (nm (upA tT_14 1 (va_cpy (tO 1) (tT_14 1) (0 : Int32).toNatClampNeg (0 : Int32).toNatClampNeg (12 : Int32).toNatClampNeg)) fun (tT_16 : GS) => chkC (0 : Int32) (0 : Int32) (8 : Int32) 8 8 (nm (upA tT_16 2 (va_cpy (tO 2) (tT_16 2) (0 : Int32).toNatClampNeg (0 : Int32).toNatClampNeg (8 : Int32).toNatClampNeg)) fun (tT_18 : GS) => chkC (0 : Int32) (0 : Int32) (8 : Int32) 8 8 (nm (upA tT_18 3 (va_cpy (tO 3) (tT_18 3) (0 : Int32).toNatClampNeg (0 : Int32).toNatClampNeg (8 : Int32).toNatClampNeg)) fun (tT_20 : GS) => chkC (0 : Int32) (0 : Int32) (6 : Int32) 6 6 (nm (upA tT_20 4 (va_cpy (tO 4) (tT_20 4) (0 : Int32).toNatClampNeg (0 : Int32).toNatClampNeg (6 : Int32).toNatClampNeg)) fun (tT_22 : GS) => chkC (0 : Int32) (0 : Int32) (6 : Int32) 6 6 (nm (upA tT_22 5 (va_cpy (tO 5) (tT_22 5) (0 : Int32).toNatClampNeg (0 : Int32).toNatClampNeg (6 : Int32).toNatClampNeg)) fun (tT_24 : GS) => chkC (0 : Int32) (0 : Int32) (6 : Int32) 6 6 (nm (upA tT_24 6 (va_cpy (tO 6) (tT_24 6) (0 : Int32).toNatClampNeg (0 : Int32).toNatClampNeg (6 : Int32).toNatClampNeg)) fun (tT_26 : GS) => chkC (0 : Int32) (0 : Int32) (6 : Int32) 6 6 (nm (upA tT_26 7 (va_cpy (tO 7) (tT_26 7) (0 : Int32).toNatClampNeg (0 : Int32).toNatClampNeg (6 : Int32).toNatClampNeg)) fun (tT_28 : GS) => some (tT_28))))))))
abbrev rmX3_copyFrom : Room := { frames := 2, cells := 0, slots := 0, locals := 80 }
set_option maxHeartbeats 4000000 in
set_option maxRecDepth 100000 in
theorem ctX3_copyFrom (l : Launch) (D : va_G) (Y : Nat → ClassId) (hT : Nat → Nat) (hO : Nat → Nat) (sz : Nat) (tT : GS) (tO : GS) (tTz : GS) (hM : MX3_copyFrom tT tO = some (tTz)) : Met l yX3_copyFrom wsX3_copyFrom rmX3_copyFrom (pcW [.ref (hT 0), .ref (hO 0)] sz D Y (cTold Y hT tT ++ cTold Y hO tO)) (qvW D (cTold Y hT tTz ++ cTold Y hO tO) (va_A (cTold Y hT tT ++ cTold Y hO tO) sz)) 0 0 (va_A (cTold Y hT tT ++ cTold Y hO tO) sz) := by
  refine Met.ofW (cc := cX3_copyFrom) (maxL := 2) (ret := (none)) (by decide) rfl ?_
  intro p e s m args below meth c s₁ B hml hv
  obtain ⟨rfl, hsz, hP, hK, hD0⟩ := hv
  have hx := B.exec
  have hb := B.bytes
  have hr := B.returns
  have hts := atoms_spec (ws := wsX3_copyFrom) B.pre
  have hown : s.vm.findClass RX3 = some m.cls := findClass_of_methodNamed B.named
  have hlocks := B.notSynchronized
  subst hsz
  have hD := hD0.self (sz := s.heap.size)
  generalize hAe : va_A (cTold Y hT tT ++ cTold Y hO tO) s.heap.size = A at hD ⊢
  have hA : ∀ q : Nat, s.heap.size ≤ q → A q := fun q h => by rw [← hAe]; exact Or.inr h
  have hS : va_S A s.heap s.heap [] := va_S.rf
  have hi3 : ∀ w ∈ wsX30, w ∈ wsX3_copyFrom := fun w h => List.mem_cons_of_mem _ (List.mem_append_right _ h)
  have hl := lv_entry ([.ref (hT 0), .ref (hO 0)]) (n := 2) (Nat.le_of_ble_eq_true rfl)
  rw [lg_entry_eq]
  generalize (lg_sl ([.ref (hT 0), .ref (hO 0)]) ++ List.replicate (2 - (lg_sl ([.ref (hT 0), .ref (hO 0)])).length) Slot.unset).toArray = ls at hl ⊢
  have hl : lv_has ls 2 [(0, .ref (hT 0)), (1, .ref (hO 0))] := hl
  obtain ⟨QQ, hQQ⟩ : ∃ Q : State → Prop, Q = MQ below (qvW D (cTold Y hT tTz ++ cTold Y hO tO) A) ([.ref (hT 0), .ref (hO 0)] : List Value).toArray s 0 0 A := ⟨_, rfl⟩
  rw [← hQQ]
  unfold MX3_copyFrom at hM
  suffices hI : ∀ (H : Heap) (locs : List Loc), va_P D vwCl (cTold Y hT tT ++ cTold Y hO tO) H → va_S A s.heap H locs → W p l e (headSpec wsX3_copyFrom rmX3_copyFrom).room s m ([.ref (hT 0), .ref (hO 0)] : List Value).toArray below meth c H locs 0 0 QQ (F0 m 0 ls []) from hI _ _ hP hS
  clear hP hS
  intro H locs hP hS
  refine lv_aload_n hx hb dX3_copyFrom_0 rfl (lv_at hl 0 rfl) ?_
  refine lv_aload_n hx hb dX3_copyFrom_1 rfl (lv_at hl 1 rfl) ?_
  refine va_get hx hb hts hi3 hown hK hP 8 rfl rfl 0 (by decide) (hts (.fieldLink RX3 37 "NightPlots$Told" "plots" "I") (List.mem_of_getElem? (i := 1) rfl)) (fun _ h9 => h9) rfl dX3_copyFrom_2 ?_
  refine lv_topi (fun x1 ex1 => ?_)
  replace hM := nm_at hM ex1
  refine va_put (ty := .int) hx hb hts hi3 tyX3 tyX3_ok nmX3 hown hK hP (hD.same rfl) hS 0 rfl rfl 0 (by decide) (hts (.fieldLink RX3 37 "NightPlots$Told" "plots" "I") (List.mem_of_getElem? (i := 1) rfl)) (fun _ h9 => h9) rfl (by decide +kernel) rfl rfl (Nat.le_of_ble_eq_true rfl) dX3_copyFrom_5 (fun H locs hP _ hS => ?_)
  obtain ⟨tT_2, etT_2⟩ : ∃ z : GS, z = (up2 tT 0 0 x1) := ⟨_, rfl⟩
  have hP : va_P D vwCl (cTold Y hT tT_2 ++ cTold Y hO tO) H := by rw [etT_2]; exact hP
  replace hM := nm_at hM etT_2
  refine lv_aload_n hx hb dX3_copyFrom_8 rfl (lv_at hl 0 rfl) ?_
  refine lv_aload_n hx hb dX3_copyFrom_9 rfl (lv_at hl 1 rfl) ?_
  refine va_get hx hb hts hi3 hown hK hP 8 rfl rfl 1 (by decide) (hts (.fieldLink RX3 59 "NightPlots$Told" "houses" "I") (List.mem_of_getElem? (i := 2) rfl)) (fun _ h9 => h9) rfl dX3_copyFrom_10 ?_
  refine lv_topi (fun x3 ex3 => ?_)
  replace hM := nm_at hM ex3
  refine va_put (ty := .int) hx hb hts hi3 tyX3 tyX3_ok nmX3 hown hK hP (hD.same rfl) hS 0 rfl rfl 1 (by decide) (hts (.fieldLink RX3 59 "NightPlots$Told" "houses" "I") (List.mem_of_getElem? (i := 2) rfl)) (fun _ h9 => h9) rfl (by decide +kernel) rfl rfl (Nat.le_of_ble_eq_true rfl) dX3_copyFrom_13 (fun H locs hP _ hS => ?_)
  obtain ⟨tT_4, etT_4⟩ : ∃ z : GS, z = (up2 tT_2 0 1 x3) := ⟨_, rfl⟩
  have hP : va_P D vwCl (cTold Y hT tT_4 ++ cTold Y hO tO) H := by rw [etT_4]; exact hP
  replace hM := nm_at hM etT_4
  refine lv_aload_n hx hb dX3_copyFrom_16 rfl (lv_at hl 0 rfl) ?_
  refine lv_aload_n hx hb dX3_copyFrom_17 rfl (lv_at hl 1 rfl) ?_
  refine va_get hx hb hts hi3 hown hK hP 8 rfl rfl 2 (by decide) (hts (.fieldLink RX3 41 "NightPlots$Told" "paths" "I") (List.mem_of_getElem? (i := 3) rfl)) (fun _ h9 => h9) rfl dX3_copyFrom_18 ?_
  refine lv_topi (fun x5 ex5 => ?_)
  replace hM := nm_at hM ex5
  refine va_put (ty := .int) hx hb hts hi3 tyX3 tyX3_ok nmX3 hown hK hP (hD.same rfl) hS 0 rfl rfl 2 (by decide) (hts (.fieldLink RX3 41 "NightPlots$Told" "paths" "I") (List.mem_of_getElem? (i := 3) rfl)) (fun _ h9 => h9) rfl (by decide +kernel) rfl rfl (Nat.le_of_ble_eq_true rfl) dX3_copyFrom_21 (fun H locs hP _ hS => ?_)
  obtain ⟨tT_6, etT_6⟩ : ∃ z : GS, z = (up2 tT_4 0 2 x5) := ⟨_, rfl⟩
  have hP : va_P D vwCl (cTold Y hT tT_6 ++ cTold Y hO tO) H := by rw [etT_6]; exact hP
  replace hM := nm_at hM etT_6
  refine lv_aload_n hx hb dX3_copyFrom_24 rfl (lv_at hl 0 rfl) ?_
  refine lv_aload_n hx hb dX3_copyFrom_25 rfl (lv_at hl 1 rfl) ?_
  refine va_get hx hb hts hi3 hown hK hP 8 rfl rfl 3 (by decide) (hts (.fieldLink RX3 62 "NightPlots$Told" "feuds" "I") (List.mem_of_getElem? (i := 4) rfl)) (fun _ h9 => h9) rfl dX3_copyFrom_26 ?_
  refine lv_topi (fun x7 ex7 => ?_)
  replace hM := nm_at hM ex7
  refine va_put (ty := .int) hx hb hts hi3 tyX3 tyX3_ok nmX3 hown hK hP (hD.same rfl) hS 0 rfl rfl 3 (by decide) (hts (.fieldLink RX3 62 "NightPlots$Told" "feuds" "I") (List.mem_of_getElem? (i := 4) rfl)) (fun _ h9 => h9) rfl (by decide +kernel) rfl rfl (Nat.le_of_ble_eq_true rfl) dX3_copyFrom_29 (fun H locs hP _ hS => ?_)
  obtain ⟨tT_8, etT_8⟩ : ∃ z : GS, z = (up2 tT_6 0 3 x7) := ⟨_, rfl⟩
  have hP : va_P D vwCl (cTold Y hT tT_8 ++ cTold Y hO tO) H := by rw [etT_8]; exact hP
  replace hM := nm_at hM etT_8
  refine lv_aload_n hx hb dX3_copyFrom_32 rfl (lv_at hl 0 rfl) ?_
  refine lv_aload_n hx hb dX3_copyFrom_33 rfl (lv_at hl 1 rfl) ?_
  refine va_get hx hb hts hi3 hown hK hP 8 rfl rfl 4 (by decide) (hts (.fieldLink RX3 44 "NightPlots$Told" "law" "I") (List.mem_of_getElem? (i := 5) rfl)) (fun _ h9 => h9) rfl dX3_copyFrom_34 ?_
  refine lv_topi (fun x9 ex9 => ?_)
  replace hM := nm_at hM ex9
  refine va_put (ty := .int) hx hb hts hi3 tyX3 tyX3_ok nmX3 hown hK hP (hD.same rfl) hS 0 rfl rfl 4 (by decide) (hts (.fieldLink RX3 44 "NightPlots$Told" "law" "I") (List.mem_of_getElem? (i := 5) rfl)) (fun _ h9 => h9) rfl (by decide +kernel) rfl rfl (Nat.le_of_ble_eq_true rfl) dX3_copyFrom_37 (fun H locs hP _ hS => ?_)
  obtain ⟨tT_10, etT_10⟩ : ∃ z : GS, z = (up2 tT_8 0 4 x9) := ⟨_, rfl⟩
  have hP : va_P D vwCl (cTold Y hT tT_10 ++ cTold Y hO tO) H := by rw [etT_10]; exact hP
  replace hM := nm_at hM etT_10
  refine lv_aload_n hx hb dX3_copyFrom_40 rfl (lv_at hl 0 rfl) ?_
  refine lv_aload_n hx hb dX3_copyFrom_41 rfl (lv_at hl 1 rfl) ?_
  refine va_get hx hb hts hi3 hown hK hP 8 rfl rfl 5 (by decide) (hts (.fieldLink RX3 47 "NightPlots$Told" "seed" "I") (List.mem_of_getElem? (i := 6) rfl)) (fun _ h9 => h9) rfl dX3_copyFrom_42 ?_
  refine lv_topi (fun x11 ex11 => ?_)
  replace hM := nm_at hM ex11
  refine va_put (ty := .int) hx hb hts hi3 tyX3 tyX3_ok nmX3 hown hK hP (hD.same rfl) hS 0 rfl rfl 5 (by decide) (hts (.fieldLink RX3 47 "NightPlots$Told" "seed" "I") (List.mem_of_getElem? (i := 6) rfl)) (fun _ h9 => h9) rfl (by decide +kernel) rfl rfl (Nat.le_of_ble_eq_true rfl) dX3_copyFrom_45 (fun H locs hP _ hS => ?_)
  obtain ⟨tT_12, etT_12⟩ : ∃ z : GS, z = (up2 tT_10 0 5 x11) := ⟨_, rfl⟩
  have hP : va_P D vwCl (cTold Y hT tT_12 ++ cTold Y hO tO) H := by rw [etT_12]; exact hP
  replace hM := nm_at hM etT_12
  refine lv_aload_n hx hb dX3_copyFrom_48 rfl (lv_at hl 0 rfl) ?_
  refine lv_aload_n hx hb dX3_copyFrom_49 rfl (lv_at hl 1 rfl) ?_
  refine va_get hx hb hts hi3 hown hK hP 8 rfl rfl 6 (by decide) (hts (.fieldLink RX3 65 "NightPlots$Told" "taken" "I") (List.mem_of_getElem? (i := 7) rfl)) (fun _ h9 => h9) rfl dX3_copyFrom_50 ?_
  refine lv_topi (fun x13 ex13 => ?_)
  replace hM := nm_at hM ex13
  refine va_put (ty := .int) hx hb hts hi3 tyX3 tyX3_ok nmX3 hown hK hP (hD.same rfl) hS 0 rfl rfl 6 (by decide) (hts (.fieldLink RX3 65 "NightPlots$Told" "taken" "I") (List.mem_of_getElem? (i := 7) rfl)) (fun _ h9 => h9) rfl (by decide +kernel) rfl rfl (Nat.le_of_ble_eq_true rfl) dX3_copyFrom_53 (fun H locs hP _ hS => ?_)
  obtain ⟨tT_14, etT_14⟩ : ∃ z : GS, z = (up2 tT_12 0 6 x13) := ⟨_, rfl⟩
  have hP : va_P D vwCl (cTold Y hT tT_14 ++ cTold Y hO tO) H := by rw [etT_14]; exact hP
  replace hM := nm_at hM etT_14
  refine lv_aload_n hx hb dX3_copyFrom_56 rfl (lv_at hl 1 rfl) ?_
  refine va_get hx hb hts hi3 hown hK hP 8 rfl rfl 7 (by decide) (hts (.fieldLink RX3 9 "NightPlots$Told" "crop" "[I") (List.mem_of_getElem? (i := 8) rfl)) (fun _ h9 => h9) rfl dX3_copyFrom_57 ?_
  refine lv_iconst (v := (0 : Int32)) hx hb dX3_copyFrom_60 (by decide) ?_
  refine lv_aload_n hx hb dX3_copyFrom_61 rfl (lv_at hl 0 rfl) ?_
  refine va_get hx hb hts hi3 hown hK hP 0 rfl rfl 7 (by decide) (hts (.fieldLink RX3 9 "NightPlots$Told" "crop" "[I") (List.mem_of_getElem? (i := 8) rfl)) (fun _ h9 => h9) rfl dX3_copyFrom_62 ?_
  refine lv_iconst (v := (0 : Int32)) hx hb dX3_copyFrom_65 (by decide) ?_
  refine lv_bipush (v := (12 : Int32)) hx hb dX3_copyFrom_66 (by decide) ?_
  obtain ⟨hc151, hc152, hc153, hc154, hc155, hM⟩ := chkC_at hM
  refine va_copyi hx hb (hml.trans hl.1.symm) hown (hts (.methodLink RX3 68 arraycopyName) (List.mem_of_getElem? (i := 9) rfl)) (hts (.native arraycopyName) (List.mem_of_getElem? (i := 10) rfl)) (hts (.static arraycopyName) (List.mem_of_getElem? (i := 11) rfl)) (hts (.initialized "java/lang/System") (List.mem_of_getElem? (i := 12) rfl)) hK hP (hD.same rfl) hS 9 1 0 0 rfl rfl rfl rfl rfl hc151 hc152 hc153 hc154 hc155 (fun _ _ => rfl) (Nat.le_of_ble_eq_true rfl) (Nat.le_of_ble_eq_true rfl) dX3_copyFrom_68 (fun H locs hP _ hS => ?_)
  obtain ⟨tT_16, etT_16⟩ : ∃ z : GS, z = (upA tT_14 1 (va_cpy (tO 1) (tT_14 1) (0 : Int32).toNatClampNeg (0 : Int32).toNatClampNeg (12 : Int32).toNatClampNeg)) := ⟨_, rfl⟩
  have hP : va_P D vwCl (cTold Y hT tT_16 ++ cTold Y hO tO) H := by rw [etT_16]; exact hP
  replace hM := nm_at hM etT_16
  refine lv_aload_n hx hb dX3_copyFrom_71 rfl (lv_at hl 1 rfl) ?_
  refine va_get hx hb hts hi3 hown hK hP 8 rfl rfl 8 (by decide) (hts (.fieldLink RX3 15 "NightPlots$Told" "kind" "[I") (List.mem_of_getElem? (i := 13) rfl)) (fun _ h9 => h9) rfl dX3_copyFrom_72 ?_
  refine lv_iconst (v := (0 : Int32)) hx hb dX3_copyFrom_75 (by decide) ?_
  refine lv_aload_n hx hb dX3_copyFrom_76 rfl (lv_at hl 0 rfl) ?_
  refine va_get hx hb hts hi3 hown hK hP 0 rfl rfl 8 (by decide) (hts (.fieldLink RX3 15 "NightPlots$Told" "kind" "[I") (List.mem_of_getElem? (i := 13) rfl)) (fun _ h9 => h9) rfl dX3_copyFrom_77 ?_
  refine lv_iconst (v := (0 : Int32)) hx hb dX3_copyFrom_80 (by decide) ?_
  refine lv_bipush (v := (8 : Int32)) hx hb dX3_copyFrom_81 (by decide) ?_
  obtain ⟨hc171, hc172, hc173, hc174, hc175, hM⟩ := chkC_at hM
  refine va_copyi hx hb (hml.trans hl.1.symm) hown (hts (.methodLink RX3 68 arraycopyName) (List.mem_of_getElem? (i := 9) rfl)) (hts (.native arraycopyName) (List.mem_of_getElem? (i := 10) rfl)) (hts (.static arraycopyName) (List.mem_of_getElem? (i := 11) rfl)) (hts (.initialized "java/lang/System") (List.mem_of_getElem? (i := 12) rfl)) hK hP (hD.same rfl) hS 10 2 0 0 rfl rfl rfl rfl rfl hc171 hc172 hc173 hc174 hc175 (fun _ _ => rfl) (Nat.le_of_ble_eq_true rfl) (Nat.le_of_ble_eq_true rfl) dX3_copyFrom_83 (fun H locs hP _ hS => ?_)
  obtain ⟨tT_18, etT_18⟩ : ∃ z : GS, z = (upA tT_16 2 (va_cpy (tO 2) (tT_16 2) (0 : Int32).toNatClampNeg (0 : Int32).toNatClampNeg (8 : Int32).toNatClampNeg)) := ⟨_, rfl⟩
  have hP : va_P D vwCl (cTold Y hT tT_18 ++ cTold Y hO tO) H := by rw [etT_18]; exact hP
  replace hM := nm_at hM etT_18
  refine lv_aload_n hx hb dX3_copyFrom_86 rfl (lv_at hl 1 rfl) ?_
  refine va_get hx hb hts hi3 hown hK hP 8 rfl rfl 9 (by decide) (hts (.fieldLink RX3 18 "NightPlots$Told" "place" "[I") (List.mem_of_getElem? (i := 14) rfl)) (fun _ h9 => h9) rfl dX3_copyFrom_87 ?_
  refine lv_iconst (v := (0 : Int32)) hx hb dX3_copyFrom_90 (by decide) ?_
  refine lv_aload_n hx hb dX3_copyFrom_91 rfl (lv_at hl 0 rfl) ?_
  refine va_get hx hb hts hi3 hown hK hP 0 rfl rfl 9 (by decide) (hts (.fieldLink RX3 18 "NightPlots$Told" "place" "[I") (List.mem_of_getElem? (i := 14) rfl)) (fun _ h9 => h9) rfl dX3_copyFrom_92 ?_
  refine lv_iconst (v := (0 : Int32)) hx hb dX3_copyFrom_95 (by decide) ?_
  refine lv_bipush (v := (8 : Int32)) hx hb dX3_copyFrom_96 (by decide) ?_
  obtain ⟨hc191, hc192, hc193, hc194, hc195, hM⟩ := chkC_at hM
  refine va_copyi hx hb (hml.trans hl.1.symm) hown (hts (.methodLink RX3 68 arraycopyName) (List.mem_of_getElem? (i := 9) rfl)) (hts (.native arraycopyName) (List.mem_of_getElem? (i := 10) rfl)) (hts (.static arraycopyName) (List.mem_of_getElem? (i := 11) rfl)) (hts (.initialized "java/lang/System") (List.mem_of_getElem? (i := 12) rfl)) hK hP (hD.same rfl) hS 11 3 0 0 rfl rfl rfl rfl rfl hc191 hc192 hc193 hc194 hc195 (fun _ _ => rfl) (Nat.le_of_ble_eq_true rfl) (Nat.le_of_ble_eq_true rfl) dX3_copyFrom_98 (fun H locs hP _ hS => ?_)
  obtain ⟨tT_20, etT_20⟩ : ∃ z : GS, z = (upA tT_18 3 (va_cpy (tO 3) (tT_18 3) (0 : Int32).toNatClampNeg (0 : Int32).toNatClampNeg (8 : Int32).toNatClampNeg)) := ⟨_, rfl⟩
  have hP : va_P D vwCl (cTold Y hT tT_20 ++ cTold Y hO tO) H := by rw [etT_20]; exact hP
  replace hM := nm_at hM etT_20
  refine lv_aload_n hx hb dX3_copyFrom_101 rfl (lv_at hl 1 rfl) ?_
  refine va_get hx hb hts hi3 hown hK hP 8 rfl rfl 10 (by decide) (hts (.fieldLink RX3 21 "NightPlots$Told" "pathFrom" "[I") (List.mem_of_getElem? (i := 15) rfl)) (fun _ h9 => h9) rfl dX3_copyFrom_102 ?_
  refine lv_iconst (v := (0 : Int32)) hx hb dX3_copyFrom_105 (by decide) ?_
  refine lv_aload_n hx hb dX3_copyFrom_106 rfl (lv_at hl 0 rfl) ?_
  refine va_get hx hb hts hi3 hown hK hP 0 rfl rfl 10 (by decide) (hts (.fieldLink RX3 21 "NightPlots$Told" "pathFrom" "[I") (List.mem_of_getElem? (i := 15) rfl)) (fun _ h9 => h9) rfl dX3_copyFrom_107 ?_
  refine lv_iconst (v := (0 : Int32)) hx hb dX3_copyFrom_110 (by decide) ?_
  refine lv_bipush (v := (6 : Int32)) hx hb dX3_copyFrom_111 (by decide) ?_
  obtain ⟨hc211, hc212, hc213, hc214, hc215, hM⟩ := chkC_at hM
  refine va_copyi hx hb (hml.trans hl.1.symm) hown (hts (.methodLink RX3 68 arraycopyName) (List.mem_of_getElem? (i := 9) rfl)) (hts (.native arraycopyName) (List.mem_of_getElem? (i := 10) rfl)) (hts (.static arraycopyName) (List.mem_of_getElem? (i := 11) rfl)) (hts (.initialized "java/lang/System") (List.mem_of_getElem? (i := 12) rfl)) hK hP (hD.same rfl) hS 12 4 0 0 rfl rfl rfl rfl rfl hc211 hc212 hc213 hc214 hc215 (fun _ _ => rfl) (Nat.le_of_ble_eq_true rfl) (Nat.le_of_ble_eq_true rfl) dX3_copyFrom_113 (fun H locs hP _ hS => ?_)
  obtain ⟨tT_22, etT_22⟩ : ∃ z : GS, z = (upA tT_20 4 (va_cpy (tO 4) (tT_20 4) (0 : Int32).toNatClampNeg (0 : Int32).toNatClampNeg (6 : Int32).toNatClampNeg)) := ⟨_, rfl⟩
  have hP : va_P D vwCl (cTold Y hT tT_22 ++ cTold Y hO tO) H := by rw [etT_22]; exact hP
  replace hM := nm_at hM etT_22
  refine lv_aload_n hx hb dX3_copyFrom_116 rfl (lv_at hl 1 rfl) ?_
  refine va_get hx hb hts hi3 hown hK hP 8 rfl rfl 11 (by decide) (hts (.fieldLink RX3 24 "NightPlots$Told" "pathTo" "[I") (List.mem_of_getElem? (i := 16) rfl)) (fun _ h9 => h9) rfl dX3_copyFrom_117 ?_
  refine lv_iconst (v := (0 : Int32)) hx hb dX3_copyFrom_120 (by decide) ?_
  refine lv_aload_n hx hb dX3_copyFrom_121 rfl (lv_at hl 0 rfl) ?_
  refine va_get hx hb hts hi3 hown hK hP 0 rfl rfl 11 (by decide) (hts (.fieldLink RX3 24 "NightPlots$Told" "pathTo" "[I") (List.mem_of_getElem? (i := 16) rfl)) (fun _ h9 => h9) rfl dX3_copyFrom_122 ?_
  refine lv_iconst (v := (0 : Int32)) hx hb dX3_copyFrom_125 (by decide) ?_
  refine lv_bipush (v := (6 : Int32)) hx hb dX3_copyFrom_126 (by decide) ?_
  obtain ⟨hc231, hc232, hc233, hc234, hc235, hM⟩ := chkC_at hM
  refine va_copyi hx hb (hml.trans hl.1.symm) hown (hts (.methodLink RX3 68 arraycopyName) (List.mem_of_getElem? (i := 9) rfl)) (hts (.native arraycopyName) (List.mem_of_getElem? (i := 10) rfl)) (hts (.static arraycopyName) (List.mem_of_getElem? (i := 11) rfl)) (hts (.initialized "java/lang/System") (List.mem_of_getElem? (i := 12) rfl)) hK hP (hD.same rfl) hS 13 5 0 0 rfl rfl rfl rfl rfl hc231 hc232 hc233 hc234 hc235 (fun _ _ => rfl) (Nat.le_of_ble_eq_true rfl) (Nat.le_of_ble_eq_true rfl) dX3_copyFrom_128 (fun H locs hP _ hS => ?_)
  obtain ⟨tT_24, etT_24⟩ : ∃ z : GS, z = (upA tT_22 5 (va_cpy (tO 5) (tT_22 5) (0 : Int32).toNatClampNeg (0 : Int32).toNatClampNeg (6 : Int32).toNatClampNeg)) := ⟨_, rfl⟩
  have hP : va_P D vwCl (cTold Y hT tT_24 ++ cTold Y hO tO) H := by rw [etT_24]; exact hP
  replace hM := nm_at hM etT_24
  refine lv_aload_n hx hb dX3_copyFrom_131 rfl (lv_at hl 1 rfl) ?_
  refine va_get hx hb hts hi3 hown hK hP 8 rfl rfl 12 (by decide) (hts (.fieldLink RX3 27 "NightPlots$Told" "feudOne" "[I") (List.mem_of_getElem? (i := 17) rfl)) (fun _ h9 => h9) rfl dX3_copyFrom_132 ?_
  refine lv_iconst (v := (0 : Int32)) hx hb dX3_copyFrom_135 (by decide) ?_
  refine lv_aload_n hx hb dX3_copyFrom_136 rfl (lv_at hl 0 rfl) ?_
  refine va_get hx hb hts hi3 hown hK hP 0 rfl rfl 12 (by decide) (hts (.fieldLink RX3 27 "NightPlots$Told" "feudOne" "[I") (List.mem_of_getElem? (i := 17) rfl)) (fun _ h9 => h9) rfl dX3_copyFrom_137 ?_
  refine lv_iconst (v := (0 : Int32)) hx hb dX3_copyFrom_140 (by decide) ?_
  refine lv_bipush (v := (6 : Int32)) hx hb dX3_copyFrom_141 (by decide) ?_
  obtain ⟨hc251, hc252, hc253, hc254, hc255, hM⟩ := chkC_at hM
  refine va_copyi hx hb (hml.trans hl.1.symm) hown (hts (.methodLink RX3 68 arraycopyName) (List.mem_of_getElem? (i := 9) rfl)) (hts (.native arraycopyName) (List.mem_of_getElem? (i := 10) rfl)) (hts (.static arraycopyName) (List.mem_of_getElem? (i := 11) rfl)) (hts (.initialized "java/lang/System") (List.mem_of_getElem? (i := 12) rfl)) hK hP (hD.same rfl) hS 14 6 0 0 rfl rfl rfl rfl rfl hc251 hc252 hc253 hc254 hc255 (fun _ _ => rfl) (Nat.le_of_ble_eq_true rfl) (Nat.le_of_ble_eq_true rfl) dX3_copyFrom_143 (fun H locs hP _ hS => ?_)
  obtain ⟨tT_26, etT_26⟩ : ∃ z : GS, z = (upA tT_24 6 (va_cpy (tO 6) (tT_24 6) (0 : Int32).toNatClampNeg (0 : Int32).toNatClampNeg (6 : Int32).toNatClampNeg)) := ⟨_, rfl⟩
  have hP : va_P D vwCl (cTold Y hT tT_26 ++ cTold Y hO tO) H := by rw [etT_26]; exact hP
  replace hM := nm_at hM etT_26
  refine lv_aload_n hx hb dX3_copyFrom_146 rfl (lv_at hl 1 rfl) ?_
  refine va_get hx hb hts hi3 hown hK hP 8 rfl rfl 13 (by decide) (hts (.fieldLink RX3 30 "NightPlots$Told" "feudOther" "[I") (List.mem_of_getElem? (i := 18) rfl)) (fun _ h9 => h9) rfl dX3_copyFrom_147 ?_
  refine lv_iconst (v := (0 : Int32)) hx hb dX3_copyFrom_150 (by decide) ?_
  refine lv_aload_n hx hb dX3_copyFrom_151 rfl (lv_at hl 0 rfl) ?_
  refine va_get hx hb hts hi3 hown hK hP 0 rfl rfl 13 (by decide) (hts (.fieldLink RX3 30 "NightPlots$Told" "feudOther" "[I") (List.mem_of_getElem? (i := 18) rfl)) (fun _ h9 => h9) rfl dX3_copyFrom_152 ?_
  refine lv_iconst (v := (0 : Int32)) hx hb dX3_copyFrom_155 (by decide) ?_
  refine lv_bipush (v := (6 : Int32)) hx hb dX3_copyFrom_156 (by decide) ?_
  obtain ⟨hc271, hc272, hc273, hc274, hc275, hM⟩ := chkC_at hM
  refine va_copyi hx hb (hml.trans hl.1.symm) hown (hts (.methodLink RX3 68 arraycopyName) (List.mem_of_getElem? (i := 9) rfl)) (hts (.native arraycopyName) (List.mem_of_getElem? (i := 10) rfl)) (hts (.static arraycopyName) (List.mem_of_getElem? (i := 11) rfl)) (hts (.initialized "java/lang/System") (List.mem_of_getElem? (i := 12) rfl)) hK hP (hD.same rfl) hS 15 7 0 0 rfl rfl rfl rfl rfl hc271 hc272 hc273 hc274 hc275 (fun _ _ => rfl) (Nat.le_of_ble_eq_true rfl) (Nat.le_of_ble_eq_true rfl) dX3_copyFrom_158 (fun H locs hP _ hS => ?_)
  obtain ⟨tT_28, etT_28⟩ : ∃ z : GS, z = (upA tT_26 7 (va_cpy (tO 7) (tT_26 7) (0 : Int32).toNatClampNeg (0 : Int32).toNatClampNeg (6 : Int32).toNatClampNeg)) := ⟨_, rfl⟩
  have hP : va_P D vwCl (cTold Y hT tT_28 ++ cTold Y hO tO) H := by rw [etT_28]; exact hP
  replace hM := nm_at hM etT_28
  cases hM
  rw [hQQ]
  exact W.vret hx hb hr (fun t ht hW => ⟨⟨(), rfl, trivial, by show va_P D vwCl _ t.heap; rw [ht]; exact hP⟩, hS.F ht⟩) hS.2.2 dX3_copyFrom_161
noncomputable def MX3_settle (tT : GS) (i1 : Int32) (i2 : Int32) : Option (Int32 × GS) := bnd1 (MX3_ground tT i1 i2) fun (r1 : Int32) => jn0 (some ((0 : Int32), tT)) (fun k3 => if (8 : Int32) ≤ (tT 0 1) then (k3) else (if ((tT 0 6) &&& r1) = 0 then (bnd1 (MX3_allPlots tT) fun (r6 : Int32) => if ((tT 0 6) ||| r1) = r6 then (k3) else (chkI (tT 0 1) 8 (nm (upA tT 2 (upd (tT 2) (tT 0 1).toNatClampNeg i1)) fun (tT_10 : GS) => chkI (tT_10 0 1) 8 (nm (upA tT_10 3 (upd (tT_10 3) (tT_10 0 1).toNatClampNeg i2)) fun (tT_12 : GS) => nm ((tT_12 0 1) + (1 : Int32)) fun (x13 : Int32) => nm (up2 tT_12 0 1 x13) fun (tT_14 : GS) => nm ((tT_14 0 6) ||| r1) fun (x15 : Int32) => nm (up2 tT_14 0 6 x15) fun (tT_16 : GS) => some ((1 : Int32), tT_16))))) else (k3)))
abbrev rmX3_settle : Room := { frames := 3, cells := 0, slots := 0, locals := 120 }
set_option maxHeartbeats 4000000 in
set_option maxRecDepth 100000 in
theorem ctX3_settle (l : Launch) (D : va_G) (Y : Nat → ClassId) (hT : Nat → Nat) (sz : Nat) (tT : GS) (i1 : Int32) (i2 : Int32) (rr : Int32) (tTz : GS) (hM : MX3_settle tT i1 i2 = some (rr, tTz)) : Met l yX3_settle wsX3_settle rmX3_settle (pcW [.ref (hT 0), .int i1, .int i2] sz D Y (cTold Y hT tT)) (qiW rr D (cTold Y hT tTz) (va_A (cTold Y hT tT) sz)) 0 0 (va_A (cTold Y hT tT) sz) := by
  refine Met.ofW (cc := cX3_settle) (maxL := 4) (ret := (some .boolean)) (by decide) rfl ?_
  intro p e s m args below meth c s₁ B hml hv
  obtain ⟨rfl, hsz, hP, hK, hD0⟩ := hv
  have hx := B.exec
  have hb := B.bytes
  have hr := B.returns
  have hts := atoms_spec (ws := wsX3_settle) B.pre
  have hown : s.vm.findClass RX3 = some m.cls := findClass_of_methodNamed B.named
  have hlocks := B.notSynchronized
  subst hsz
  have hD := hD0.self (sz := s.heap.size)
  generalize hAe : va_A (cTold Y hT tT) s.heap.size = A at hD ⊢
  have hA : ∀ q : Nat, s.heap.size ≤ q → A q := fun q h => by rw [← hAe]; exact Or.inr h
  have hS : va_S A s.heap s.heap [] := va_S.rf
  have hi3 : ∀ w ∈ wsX30, w ∈ wsX3_settle := fun w h => List.mem_cons_of_mem _ (List.mem_append_right _ h)
  have hl := lv_entry ([.ref (hT 0), .int i1, .int i2]) (n := 4) (Nat.le_of_ble_eq_true rfl)
  rw [lg_entry_eq]
  generalize (lg_sl ([.ref (hT 0), .int i1, .int i2]) ++ List.replicate (4 - (lg_sl ([.ref (hT 0), .int i1, .int i2])).length) Slot.unset).toArray = ls at hl ⊢
  have hl : lv_has ls 4 [(0, .ref (hT 0)), (1, .int i1), (2, .int i2)] := hl
  obtain ⟨QQ, hQQ⟩ : ∃ Q : State → Prop, Q = MQ below (qiW rr D (cTold Y hT tTz) A) ([.ref (hT 0), .int i1, .int i2] : List Value).toArray s 0 0 A := ⟨_, rfl⟩
  rw [← hQQ]
  unfold MX3_settle at hM
  suffices hI : ∀ (H : Heap) (locs : List Loc), va_P D vwCl (cTold Y hT tT) H → va_S A s.heap H locs → W p l e (headSpec wsX3_settle rmX3_settle).room s m ([.ref (hT 0), .int i1, .int i2] : List Value).toArray below meth c H locs 0 0 QQ (F0 m 0 ls []) from hI _ _ hP hS
  clear hP hS
  intro H locs hP hS
  refine lv_aload_n hx hb dX3_settle_0 rfl (lv_at hl 0 rfl) ?_
  refine lv_iload_n hx hb dX3_settle_1 rfl (lv_at hl 1 rfl) ?_
  refine lv_iload_n hx hb dX3_settle_2 rfl (lv_at hl 2 rfl) ?_
  obtain ⟨r1, hc2, hM⟩ := bnd1_at hM
  refine co_i (va_runV (As := [.int i1, .int i2]) (rest := []) ⟨hx, hb, hml, hown, hts⟩ (ctX3_ground l D Y hT H.size tT i1 i2 r1 hc2) (cwV 2 hts gX3_settle_X3_ground rfl rfl rfl (by decide +kernel) ⟨Nat.le_of_ble_eq_true rfl, Nat.le_of_ble_eq_true rfl⟩) (pcW_V0 (ci := 3) (q0 := 0) hK hP (hD.same rfl) rfl rfl) rfl rfl hl.1 rfl (lv_room (Nat.le_of_ble_eq_true rfl)) dX3_settle_3 ⟨Nat.zero_le _, Nat.zero_le _⟩) (hD.same rfl) hS hA (fun H locs hP hS => ?_)
  refine lv_istore_n (lv' := [(3, .int r1), (0, .ref (hT 0)), (1, .int i1), (2, .int i2)]) hx hb dX3_settle_6 rfl hl (by decide) rfl (fun ls hl => ?_)
  refine lv_aload_n hx hb dX3_settle_7 rfl (lv_at hl 1 rfl) ?_
  refine va_get hx hb hts hi3 hown hK hP 0 rfl rfl 1 (by decide) (hts (.fieldLink RX3 59 "NightPlots$Told" "houses" "I") (List.mem_of_getElem? (i := 1) rfl)) (fun _ h9 => h9) rfl dX3_settle_8 ?_
  refine lv_bipush (v := (8 : Int32)) hx hb dX3_settle_11 (by decide) ?_
  refine jn0_at (∀ (H : Heap) (locs : List Loc) (ls : Array Slot), va_P D vwCl (cTold Y hT tT) H → va_S A s.heap H locs → lv_has ls 4 [] → W p l e (headSpec wsX3_settle rmX3_settle).room s m ([.ref (hT 0), .int i1, .int i2] : List Value).toArray below meth c H locs 0 0 QQ (F0 m 38 ls [])) hM (fun  hM H locs ls hP hS hl => ?_) (fun k3 hJ3 hM => ?_)
  · refine lv_iconst (v := (0 : Int32)) hx hb dX3_settle_38 (by decide) ?_
    cases hM
    rw [hQQ]
    exact W.zret (ty := .boolean) hx hb hr rfl (fun t ht hW => ⟨⟨_, (), rfl, rfl, by show va_P D vwCl _ t.heap; rw [ht]; exact hP⟩, hS.F ht⟩) hS.2.2 dX3_settle_39
  · refine lv_icmp_ge (tgt := 38) hx hb dX3_settle_13 (by decide) (fun c4 => ?_) (fun c4 => ?_)
    · replace hM := if_at_pos hM c4
      exact hJ3 hM H locs ls hP hS (lv_sub hl [] rfl)
    · replace hM := if_at_neg hM c4
      refine lv_aload_n hx hb dX3_settle_16 rfl (lv_at hl 1 rfl) ?_
      refine va_get hx hb hts hi3 hown hK hP 0 rfl rfl 6 (by decide) (hts (.fieldLink RX3 65 "NightPlots$Told" "taken" "I") (List.mem_of_getElem? (i := 2) rfl)) (fun _ h9 => h9) rfl dX3_settle_17 ?_
      refine lv_iload_n hx hb dX3_settle_20 rfl (lv_at hl 0 rfl) ?_
      refine lv_iand hx hb dX3_settle_21 ?_
      refine lv_if_ne (tgt := 38) hx hb dX3_settle_22 (by decide) (fun c5 => ?_) (fun c5 => ?_)
      · replace hM := if_at_neg hM c5
        exact hJ3 hM H locs ls hP hS (lv_sub hl [] rfl)
      · replace hM := if_at_pos hM c5
        refine lv_aload_n hx hb dX3_settle_25 rfl (lv_at hl 1 rfl) ?_
        refine va_get hx hb hts hi3 hown hK hP 0 rfl rfl 6 (by decide) (hts (.fieldLink RX3 65 "NightPlots$Told" "taken" "I") (List.mem_of_getElem? (i := 2) rfl)) (fun _ h9 => h9) rfl dX3_settle_26 ?_
        refine lv_iload_n hx hb dX3_settle_29 rfl (lv_at hl 0 rfl) ?_
        refine lv_ior hx hb dX3_settle_30 ?_
        refine lv_aload_n hx hb dX3_settle_31 rfl (lv_at hl 1 rfl) ?_
        obtain ⟨r6, hc7, hM⟩ := bnd1_at hM
        refine co_i (va_runV (As := []) (rest := [.int ((tT 0 6) ||| r1)]) ⟨hx, hb, hml, hown, hts⟩ (ctX3_allPlots l D Y hT H.size tT r6 hc7) (cwV 0 hts gX3_settle_X3_allPlots rfl rfl rfl (by decide +kernel) ⟨Nat.le_of_ble_eq_true rfl, Nat.le_of_ble_eq_true rfl⟩) (pcW_V0 (ci := 3) (q0 := 0) hK hP (hD.same rfl) rfl rfl) rfl rfl hl.1 rfl (lv_room (Nat.le_of_ble_eq_true rfl)) dX3_settle_32 ⟨Nat.zero_le _, Nat.zero_le _⟩) (hD.same rfl) hS hA (fun H locs hP hS => ?_)
        refine lv_icmp_ne (tgt := 40) hx hb dX3_settle_35 (by decide) (fun c8 => ?_) (fun c8 => ?_)
        · replace hM := if_at_neg hM c8
          refine lv_aload_n hx hb dX3_settle_40 rfl (lv_at hl 1 rfl) ?_
          refine va_get hx hb hts hi3 hown hK hP 0 rfl rfl 8 (by decide) (hts (.fieldLink RX3 15 "NightPlots$Told" "kind" "[I") (List.mem_of_getElem? (i := 3) rfl)) (fun _ h9 => h9) rfl dX3_settle_41 ?_
          refine lv_aload_n hx hb dX3_settle_44 rfl (lv_at hl 1 rfl) ?_
          refine va_get hx hb hts hi3 hown hK hP 0 rfl rfl 1 (by decide) (hts (.fieldLink RX3 59 "NightPlots$Told" "houses" "I") (List.mem_of_getElem? (i := 1) rfl)) (fun _ h9 => h9) rfl dX3_settle_45 ?_
          refine lv_iload_n hx hb dX3_settle_48 rfl (lv_at hl 2 rfl) ?_
          obtain ⟨hi_9, hM⟩ := chkI_at hM
          refine va_iast hx hb hK hP (hD.same rfl) hS 2 0 rfl rfl hi_9 dX3_settle_49 (fun H locs hP _ hS => ?_)
          obtain ⟨tT_10, etT_10⟩ : ∃ z : GS, z = (upA tT 2 (upd (tT 2) (tT 0 1).toNatClampNeg i1)) := ⟨_, rfl⟩
          have hP : va_P D vwCl (cTold Y hT tT_10) H := by rw [etT_10]; exact hP
          replace hM := nm_at hM etT_10
          refine lv_aload_n hx hb dX3_settle_50 rfl (lv_at hl 1 rfl) ?_
          refine va_get hx hb hts hi3 hown hK hP 0 rfl rfl 9 (by decide) (hts (.fieldLink RX3 18 "NightPlots$Told" "place" "[I") (List.mem_of_getElem? (i := 4) rfl)) (fun _ h9 => h9) rfl dX3_settle_51 ?_
          refine lv_aload_n hx hb dX3_settle_54 rfl (lv_at hl 1 rfl) ?_
          refine va_get hx hb hts hi3 hown hK hP 0 rfl rfl 1 (by decide) (hts (.fieldLink RX3 59 "NightPlots$Told" "houses" "I") (List.mem_of_getElem? (i := 1) rfl)) (fun _ h9 => h9) rfl dX3_settle_55 ?_
          refine lv_iload_n hx hb dX3_settle_58 rfl (lv_at hl 3 rfl) ?_
          obtain ⟨hi_11, hM⟩ := chkI_at hM
          refine va_iast hx hb hK hP (hD.same rfl) hS 3 0 rfl rfl hi_11 dX3_settle_59 (fun H locs hP _ hS => ?_)
          obtain ⟨tT_12, etT_12⟩ : ∃ z : GS, z = (upA tT_10 3 (upd (tT_10 3) (tT_10 0 1).toNatClampNeg i2)) := ⟨_, rfl⟩
          have hP : va_P D vwCl (cTold Y hT tT_12) H := by rw [etT_12]; exact hP
          replace hM := nm_at hM etT_12
          refine lv_aload_n hx hb dX3_settle_60 rfl (lv_at hl 1 rfl) ?_
          refine lv_dup hx hb dX3_settle_61 rfl ?_
          refine va_get hx hb hts hi3 hown hK hP 0 rfl rfl 1 (by decide) (hts (.fieldLink RX3 59 "NightPlots$Told" "houses" "I") (List.mem_of_getElem? (i := 1) rfl)) (fun _ h9 => h9) rfl dX3_settle_62 ?_
          refine lv_iconst (v := (1 : Int32)) hx hb dX3_settle_65 (by decide) ?_
          refine lv_iadd hx hb dX3_settle_66 ?_
          refine lv_topi (fun x13 ex13 => ?_)
          replace hM := nm_at hM ex13
          refine va_put (ty := .int) hx hb hts hi3 tyX3 tyX3_ok nmX3 hown hK hP (hD.same rfl) hS 0 rfl rfl 1 (by decide) (hts (.fieldLink RX3 59 "NightPlots$Told" "houses" "I") (List.mem_of_getElem? (i := 1) rfl)) (fun _ h9 => h9) rfl (by decide +kernel) rfl rfl (Nat.le_of_ble_eq_true rfl) dX3_settle_67 (fun H locs hP _ hS => ?_)
          obtain ⟨tT_14, etT_14⟩ : ∃ z : GS, z = (up2 tT_12 0 1 x13) := ⟨_, rfl⟩
          have hP : va_P D vwCl (cTold Y hT tT_14) H := by rw [etT_14]; exact hP
          replace hM := nm_at hM etT_14
          refine lv_aload_n hx hb dX3_settle_70 rfl (lv_at hl 1 rfl) ?_
          refine lv_dup hx hb dX3_settle_71 rfl ?_
          refine va_get hx hb hts hi3 hown hK hP 0 rfl rfl 6 (by decide) (hts (.fieldLink RX3 65 "NightPlots$Told" "taken" "I") (List.mem_of_getElem? (i := 2) rfl)) (fun _ h9 => h9) rfl dX3_settle_72 ?_
          refine lv_iload_n hx hb dX3_settle_75 rfl (lv_at hl 0 rfl) ?_
          refine lv_ior hx hb dX3_settle_76 ?_
          refine lv_topi (fun x15 ex15 => ?_)
          replace hM := nm_at hM ex15
          refine va_put (ty := .int) hx hb hts hi3 tyX3 tyX3_ok nmX3 hown hK hP (hD.same rfl) hS 0 rfl rfl 6 (by decide) (hts (.fieldLink RX3 65 "NightPlots$Told" "taken" "I") (List.mem_of_getElem? (i := 2) rfl)) (fun _ h9 => h9) rfl (by decide +kernel) rfl rfl (Nat.le_of_ble_eq_true rfl) dX3_settle_77 (fun H locs hP _ hS => ?_)
          obtain ⟨tT_16, etT_16⟩ : ∃ z : GS, z = (up2 tT_14 0 6 x15) := ⟨_, rfl⟩
          have hP : va_P D vwCl (cTold Y hT tT_16) H := by rw [etT_16]; exact hP
          replace hM := nm_at hM etT_16
          refine lv_iconst (v := (1 : Int32)) hx hb dX3_settle_80 (by decide) ?_
          cases hM
          rw [hQQ]
          exact W.zret (ty := .boolean) hx hb hr rfl (fun t ht hW => ⟨⟨_, (), rfl, rfl, by show va_P D vwCl _ t.heap; rw [ht]; exact hP⟩, hS.F ht⟩) hS.2.2 dX3_settle_81
        · replace hM := if_at_pos hM c8
          exact hJ3 hM H locs ls hP hS (lv_sub hl [] rfl)
noncomputable def MX3_addPath (tT : GS) (i1 : Int32) (i2 : Int32) : Option (Int32 × GS) := jn0 (some ((0 : Int32), tT)) (fun k1 => if (6 : Int32) ≤ (tT 0 2) then (k1) else (if i1 = i2 then (k1) else (chkI (tT 0 2) 6 (nm (upA tT 4 (upd (tT 4) (tT 0 2).toNatClampNeg i1)) fun (tT_5 : GS) => chkI (tT_5 0 2) 6 (nm (upA tT_5 5 (upd (tT_5 5) (tT_5 0 2).toNatClampNeg i2)) fun (tT_7 : GS) => nm ((tT_7 0 2) + (1 : Int32)) fun (x8 : Int32) => nm (up2 tT_7 0 2 x8) fun (tT_9 : GS) => some ((1 : Int32), tT_9))))))
abbrev rmX3_addPath : Room := { frames := 1, cells := 0, slots := 0, locals := 40 }
set_option maxHeartbeats 4000000 in
set_option maxRecDepth 100000 in
theorem ctX3_addPath (l : Launch) (D : va_G) (Y : Nat → ClassId) (hT : Nat → Nat) (sz : Nat) (tT : GS) (i1 : Int32) (i2 : Int32) (rr : Int32) (tTz : GS) (hM : MX3_addPath tT i1 i2 = some (rr, tTz)) : Met l yX3_addPath wsX3_addPath rmX3_addPath (pcW [.ref (hT 0), .int i1, .int i2] sz D Y (cTold Y hT tT)) (qiW rr D (cTold Y hT tTz) (va_A (cTold Y hT tT) sz)) 0 0 (va_A (cTold Y hT tT) sz) := by
  refine Met.ofW (cc := cX3_addPath) (maxL := 3) (ret := (some .boolean)) (by decide) rfl ?_
  intro p e s m args below meth c s₁ B hml hv
  obtain ⟨rfl, hsz, hP, hK, hD0⟩ := hv
  have hx := B.exec
  have hb := B.bytes
  have hr := B.returns
  have hts := atoms_spec (ws := wsX3_addPath) B.pre
  have hown : s.vm.findClass RX3 = some m.cls := findClass_of_methodNamed B.named
  have hlocks := B.notSynchronized
  subst hsz
  have hD := hD0.self (sz := s.heap.size)
  generalize hAe : va_A (cTold Y hT tT) s.heap.size = A at hD ⊢
  have hA : ∀ q : Nat, s.heap.size ≤ q → A q := fun q h => by rw [← hAe]; exact Or.inr h
  have hS : va_S A s.heap s.heap [] := va_S.rf
  have hi3 : ∀ w ∈ wsX30, w ∈ wsX3_addPath := fun w h => List.mem_cons_of_mem _ (List.mem_append_right _ h)
  have hl := lv_entry ([.ref (hT 0), .int i1, .int i2]) (n := 3) (Nat.le_of_ble_eq_true rfl)
  rw [lg_entry_eq]
  generalize (lg_sl ([.ref (hT 0), .int i1, .int i2]) ++ List.replicate (3 - (lg_sl ([.ref (hT 0), .int i1, .int i2])).length) Slot.unset).toArray = ls at hl ⊢
  have hl : lv_has ls 3 [(0, .ref (hT 0)), (1, .int i1), (2, .int i2)] := hl
  obtain ⟨QQ, hQQ⟩ : ∃ Q : State → Prop, Q = MQ below (qiW rr D (cTold Y hT tTz) A) ([.ref (hT 0), .int i1, .int i2] : List Value).toArray s 0 0 A := ⟨_, rfl⟩
  rw [← hQQ]
  unfold MX3_addPath at hM
  suffices hI : ∀ (H : Heap) (locs : List Loc), va_P D vwCl (cTold Y hT tT) H → va_S A s.heap H locs → W p l e (headSpec wsX3_addPath rmX3_addPath).room s m ([.ref (hT 0), .int i1, .int i2] : List Value).toArray below meth c H locs 0 0 QQ (F0 m 0 ls []) from hI _ _ hP hS
  clear hP hS
  intro H locs hP hS
  refine lv_aload_n hx hb dX3_addPath_0 rfl (lv_at hl 0 rfl) ?_
  refine va_get hx hb hts hi3 hown hK hP 0 rfl rfl 2 (by decide) (hts (.fieldLink RX3 41 "NightPlots$Told" "paths" "I") (List.mem_of_getElem? (i := 1) rfl)) (fun _ h9 => h9) rfl dX3_addPath_1 ?_
  refine lv_bipush (v := (6 : Int32)) hx hb dX3_addPath_4 (by decide) ?_
  refine jn0_at (∀ (H : Heap) (locs : List Loc) (ls : Array Slot), va_P D vwCl (cTold Y hT tT) H → va_S A s.heap H locs → lv_has ls 3 [] → W p l e (headSpec wsX3_addPath rmX3_addPath).room s m ([.ref (hT 0), .int i1, .int i2] : List Value).toArray below meth c H locs 0 0 QQ (F0 m 14 ls [])) hM (fun  hM H locs ls hP hS hl => ?_) (fun k1 hJ1 hM => ?_)
  · refine lv_iconst (v := (0 : Int32)) hx hb dX3_addPath_14 (by decide) ?_
    cases hM
    rw [hQQ]
    exact W.zret (ty := .boolean) hx hb hr rfl (fun t ht hW => ⟨⟨_, (), rfl, rfl, by show va_P D vwCl _ t.heap; rw [ht]; exact hP⟩, hS.F ht⟩) hS.2.2 dX3_addPath_15
  · refine lv_icmp_ge (tgt := 14) hx hb dX3_addPath_6 (by decide) (fun c2 => ?_) (fun c2 => ?_)
    · replace hM := if_at_pos hM c2
      exact hJ1 hM H locs ls hP hS (lv_sub hl [] rfl)
    · replace hM := if_at_neg hM c2
      refine lv_iload_n hx hb dX3_addPath_9 rfl (lv_at hl 1 rfl) ?_
      refine lv_iload_n hx hb dX3_addPath_10 rfl (lv_at hl 2 rfl) ?_
      refine lv_icmp_ne (tgt := 16) hx hb dX3_addPath_11 (by decide) (fun c3 => ?_) (fun c3 => ?_)
      · replace hM := if_at_neg hM c3
        refine lv_aload_n hx hb dX3_addPath_16 rfl (lv_at hl 0 rfl) ?_
        refine va_get hx hb hts hi3 hown hK hP 0 rfl rfl 10 (by decide) (hts (.fieldLink RX3 21 "NightPlots$Told" "pathFrom" "[I") (List.mem_of_getElem? (i := 2) rfl)) (fun _ h9 => h9) rfl dX3_addPath_17 ?_
        refine lv_aload_n hx hb dX3_addPath_20 rfl (lv_at hl 0 rfl) ?_
        refine va_get hx hb hts hi3 hown hK hP 0 rfl rfl 2 (by decide) (hts (.fieldLink RX3 41 "NightPlots$Told" "paths" "I") (List.mem_of_getElem? (i := 1) rfl)) (fun _ h9 => h9) rfl dX3_addPath_21 ?_
        refine lv_iload_n hx hb dX3_addPath_24 rfl (lv_at hl 1 rfl) ?_
        obtain ⟨hi_4, hM⟩ := chkI_at hM
        refine va_iast hx hb hK hP (hD.same rfl) hS 4 0 rfl rfl hi_4 dX3_addPath_25 (fun H locs hP _ hS => ?_)
        obtain ⟨tT_5, etT_5⟩ : ∃ z : GS, z = (upA tT 4 (upd (tT 4) (tT 0 2).toNatClampNeg i1)) := ⟨_, rfl⟩
        have hP : va_P D vwCl (cTold Y hT tT_5) H := by rw [etT_5]; exact hP
        replace hM := nm_at hM etT_5
        refine lv_aload_n hx hb dX3_addPath_26 rfl (lv_at hl 0 rfl) ?_
        refine va_get hx hb hts hi3 hown hK hP 0 rfl rfl 11 (by decide) (hts (.fieldLink RX3 24 "NightPlots$Told" "pathTo" "[I") (List.mem_of_getElem? (i := 3) rfl)) (fun _ h9 => h9) rfl dX3_addPath_27 ?_
        refine lv_aload_n hx hb dX3_addPath_30 rfl (lv_at hl 0 rfl) ?_
        refine va_get hx hb hts hi3 hown hK hP 0 rfl rfl 2 (by decide) (hts (.fieldLink RX3 41 "NightPlots$Told" "paths" "I") (List.mem_of_getElem? (i := 1) rfl)) (fun _ h9 => h9) rfl dX3_addPath_31 ?_
        refine lv_iload_n hx hb dX3_addPath_34 rfl (lv_at hl 2 rfl) ?_
        obtain ⟨hi_6, hM⟩ := chkI_at hM
        refine va_iast hx hb hK hP (hD.same rfl) hS 5 0 rfl rfl hi_6 dX3_addPath_35 (fun H locs hP _ hS => ?_)
        obtain ⟨tT_7, etT_7⟩ : ∃ z : GS, z = (upA tT_5 5 (upd (tT_5 5) (tT_5 0 2).toNatClampNeg i2)) := ⟨_, rfl⟩
        have hP : va_P D vwCl (cTold Y hT tT_7) H := by rw [etT_7]; exact hP
        replace hM := nm_at hM etT_7
        refine lv_aload_n hx hb dX3_addPath_36 rfl (lv_at hl 0 rfl) ?_
        refine lv_dup hx hb dX3_addPath_37 rfl ?_
        refine va_get hx hb hts hi3 hown hK hP 0 rfl rfl 2 (by decide) (hts (.fieldLink RX3 41 "NightPlots$Told" "paths" "I") (List.mem_of_getElem? (i := 1) rfl)) (fun _ h9 => h9) rfl dX3_addPath_38 ?_
        refine lv_iconst (v := (1 : Int32)) hx hb dX3_addPath_41 (by decide) ?_
        refine lv_iadd hx hb dX3_addPath_42 ?_
        refine lv_topi (fun x8 ex8 => ?_)
        replace hM := nm_at hM ex8
        refine va_put (ty := .int) hx hb hts hi3 tyX3 tyX3_ok nmX3 hown hK hP (hD.same rfl) hS 0 rfl rfl 2 (by decide) (hts (.fieldLink RX3 41 "NightPlots$Told" "paths" "I") (List.mem_of_getElem? (i := 1) rfl)) (fun _ h9 => h9) rfl (by decide +kernel) rfl rfl (Nat.le_of_ble_eq_true rfl) dX3_addPath_43 (fun H locs hP _ hS => ?_)
        obtain ⟨tT_9, etT_9⟩ : ∃ z : GS, z = (up2 tT_7 0 2 x8) := ⟨_, rfl⟩
        have hP : va_P D vwCl (cTold Y hT tT_9) H := by rw [etT_9]; exact hP
        replace hM := nm_at hM etT_9
        refine lv_iconst (v := (1 : Int32)) hx hb dX3_addPath_46 (by decide) ?_
        cases hM
        rw [hQQ]
        exact W.zret (ty := .boolean) hx hb hr rfl (fun t ht hW => ⟨⟨_, (), rfl, rfl, by show va_P D vwCl _ t.heap; rw [ht]; exact hP⟩, hS.F ht⟩) hS.2.2 dX3_addPath_47
      · replace hM := if_at_pos hM c3
        exact hJ1 hM H locs ls hP hS (lv_sub hl [] rfl)
noncomputable def MX3_addFeud (tT : GS) (i1 : Int32) (i2 : Int32) : Option (Int32 × GS) := jn0 (some ((0 : Int32), tT)) (fun k1 => if (6 : Int32) ≤ (tT 0 3) then (k1) else (if i1 = i2 then (k1) else (chkI (tT 0 3) 6 (nm (upA tT 6 (upd (tT 6) (tT 0 3).toNatClampNeg i1)) fun (tT_5 : GS) => chkI (tT_5 0 3) 6 (nm (upA tT_5 7 (upd (tT_5 7) (tT_5 0 3).toNatClampNeg i2)) fun (tT_7 : GS) => nm ((tT_7 0 3) + (1 : Int32)) fun (x8 : Int32) => nm (up2 tT_7 0 3 x8) fun (tT_9 : GS) => some ((1 : Int32), tT_9))))))
abbrev rmX3_addFeud : Room := { frames := 1, cells := 0, slots := 0, locals := 40 }
set_option maxHeartbeats 4000000 in
set_option maxRecDepth 100000 in
theorem ctX3_addFeud (l : Launch) (D : va_G) (Y : Nat → ClassId) (hT : Nat → Nat) (sz : Nat) (tT : GS) (i1 : Int32) (i2 : Int32) (rr : Int32) (tTz : GS) (hM : MX3_addFeud tT i1 i2 = some (rr, tTz)) : Met l yX3_addFeud wsX3_addFeud rmX3_addFeud (pcW [.ref (hT 0), .int i1, .int i2] sz D Y (cTold Y hT tT)) (qiW rr D (cTold Y hT tTz) (va_A (cTold Y hT tT) sz)) 0 0 (va_A (cTold Y hT tT) sz) := by
  refine Met.ofW (cc := cX3_addFeud) (maxL := 3) (ret := (some .boolean)) (by decide) rfl ?_
  intro p e s m args below meth c s₁ B hml hv
  obtain ⟨rfl, hsz, hP, hK, hD0⟩ := hv
  have hx := B.exec
  have hb := B.bytes
  have hr := B.returns
  have hts := atoms_spec (ws := wsX3_addFeud) B.pre
  have hown : s.vm.findClass RX3 = some m.cls := findClass_of_methodNamed B.named
  have hlocks := B.notSynchronized
  subst hsz
  have hD := hD0.self (sz := s.heap.size)
  generalize hAe : va_A (cTold Y hT tT) s.heap.size = A at hD ⊢
  have hA : ∀ q : Nat, s.heap.size ≤ q → A q := fun q h => by rw [← hAe]; exact Or.inr h
  have hS : va_S A s.heap s.heap [] := va_S.rf
  have hi3 : ∀ w ∈ wsX30, w ∈ wsX3_addFeud := fun w h => List.mem_cons_of_mem _ (List.mem_append_right _ h)
  have hl := lv_entry ([.ref (hT 0), .int i1, .int i2]) (n := 3) (Nat.le_of_ble_eq_true rfl)
  rw [lg_entry_eq]
  generalize (lg_sl ([.ref (hT 0), .int i1, .int i2]) ++ List.replicate (3 - (lg_sl ([.ref (hT 0), .int i1, .int i2])).length) Slot.unset).toArray = ls at hl ⊢
  have hl : lv_has ls 3 [(0, .ref (hT 0)), (1, .int i1), (2, .int i2)] := hl
  obtain ⟨QQ, hQQ⟩ : ∃ Q : State → Prop, Q = MQ below (qiW rr D (cTold Y hT tTz) A) ([.ref (hT 0), .int i1, .int i2] : List Value).toArray s 0 0 A := ⟨_, rfl⟩
  rw [← hQQ]
  unfold MX3_addFeud at hM
  suffices hI : ∀ (H : Heap) (locs : List Loc), va_P D vwCl (cTold Y hT tT) H → va_S A s.heap H locs → W p l e (headSpec wsX3_addFeud rmX3_addFeud).room s m ([.ref (hT 0), .int i1, .int i2] : List Value).toArray below meth c H locs 0 0 QQ (F0 m 0 ls []) from hI _ _ hP hS
  clear hP hS
  intro H locs hP hS
  refine lv_aload_n hx hb dX3_addFeud_0 rfl (lv_at hl 0 rfl) ?_
  refine va_get hx hb hts hi3 hown hK hP 0 rfl rfl 3 (by decide) (hts (.fieldLink RX3 62 "NightPlots$Told" "feuds" "I") (List.mem_of_getElem? (i := 1) rfl)) (fun _ h9 => h9) rfl dX3_addFeud_1 ?_
  refine lv_bipush (v := (6 : Int32)) hx hb dX3_addFeud_4 (by decide) ?_
  refine jn0_at (∀ (H : Heap) (locs : List Loc) (ls : Array Slot), va_P D vwCl (cTold Y hT tT) H → va_S A s.heap H locs → lv_has ls 3 [] → W p l e (headSpec wsX3_addFeud rmX3_addFeud).room s m ([.ref (hT 0), .int i1, .int i2] : List Value).toArray below meth c H locs 0 0 QQ (F0 m 14 ls [])) hM (fun  hM H locs ls hP hS hl => ?_) (fun k1 hJ1 hM => ?_)
  · refine lv_iconst (v := (0 : Int32)) hx hb dX3_addFeud_14 (by decide) ?_
    cases hM
    rw [hQQ]
    exact W.zret (ty := .boolean) hx hb hr rfl (fun t ht hW => ⟨⟨_, (), rfl, rfl, by show va_P D vwCl _ t.heap; rw [ht]; exact hP⟩, hS.F ht⟩) hS.2.2 dX3_addFeud_15
  · refine lv_icmp_ge (tgt := 14) hx hb dX3_addFeud_6 (by decide) (fun c2 => ?_) (fun c2 => ?_)
    · replace hM := if_at_pos hM c2
      exact hJ1 hM H locs ls hP hS (lv_sub hl [] rfl)
    · replace hM := if_at_neg hM c2
      refine lv_iload_n hx hb dX3_addFeud_9 rfl (lv_at hl 1 rfl) ?_
      refine lv_iload_n hx hb dX3_addFeud_10 rfl (lv_at hl 2 rfl) ?_
      refine lv_icmp_ne (tgt := 16) hx hb dX3_addFeud_11 (by decide) (fun c3 => ?_) (fun c3 => ?_)
      · replace hM := if_at_neg hM c3
        refine lv_aload_n hx hb dX3_addFeud_16 rfl (lv_at hl 0 rfl) ?_
        refine va_get hx hb hts hi3 hown hK hP 0 rfl rfl 12 (by decide) (hts (.fieldLink RX3 27 "NightPlots$Told" "feudOne" "[I") (List.mem_of_getElem? (i := 2) rfl)) (fun _ h9 => h9) rfl dX3_addFeud_17 ?_
        refine lv_aload_n hx hb dX3_addFeud_20 rfl (lv_at hl 0 rfl) ?_
        refine va_get hx hb hts hi3 hown hK hP 0 rfl rfl 3 (by decide) (hts (.fieldLink RX3 62 "NightPlots$Told" "feuds" "I") (List.mem_of_getElem? (i := 1) rfl)) (fun _ h9 => h9) rfl dX3_addFeud_21 ?_
        refine lv_iload_n hx hb dX3_addFeud_24 rfl (lv_at hl 1 rfl) ?_
        obtain ⟨hi_4, hM⟩ := chkI_at hM
        refine va_iast hx hb hK hP (hD.same rfl) hS 6 0 rfl rfl hi_4 dX3_addFeud_25 (fun H locs hP _ hS => ?_)
        obtain ⟨tT_5, etT_5⟩ : ∃ z : GS, z = (upA tT 6 (upd (tT 6) (tT 0 3).toNatClampNeg i1)) := ⟨_, rfl⟩
        have hP : va_P D vwCl (cTold Y hT tT_5) H := by rw [etT_5]; exact hP
        replace hM := nm_at hM etT_5
        refine lv_aload_n hx hb dX3_addFeud_26 rfl (lv_at hl 0 rfl) ?_
        refine va_get hx hb hts hi3 hown hK hP 0 rfl rfl 13 (by decide) (hts (.fieldLink RX3 30 "NightPlots$Told" "feudOther" "[I") (List.mem_of_getElem? (i := 3) rfl)) (fun _ h9 => h9) rfl dX3_addFeud_27 ?_
        refine lv_aload_n hx hb dX3_addFeud_30 rfl (lv_at hl 0 rfl) ?_
        refine va_get hx hb hts hi3 hown hK hP 0 rfl rfl 3 (by decide) (hts (.fieldLink RX3 62 "NightPlots$Told" "feuds" "I") (List.mem_of_getElem? (i := 1) rfl)) (fun _ h9 => h9) rfl dX3_addFeud_31 ?_
        refine lv_iload_n hx hb dX3_addFeud_34 rfl (lv_at hl 2 rfl) ?_
        obtain ⟨hi_6, hM⟩ := chkI_at hM
        refine va_iast hx hb hK hP (hD.same rfl) hS 7 0 rfl rfl hi_6 dX3_addFeud_35 (fun H locs hP _ hS => ?_)
        obtain ⟨tT_7, etT_7⟩ : ∃ z : GS, z = (upA tT_5 7 (upd (tT_5 7) (tT_5 0 3).toNatClampNeg i2)) := ⟨_, rfl⟩
        have hP : va_P D vwCl (cTold Y hT tT_7) H := by rw [etT_7]; exact hP
        replace hM := nm_at hM etT_7
        refine lv_aload_n hx hb dX3_addFeud_36 rfl (lv_at hl 0 rfl) ?_
        refine lv_dup hx hb dX3_addFeud_37 rfl ?_
        refine va_get hx hb hts hi3 hown hK hP 0 rfl rfl 3 (by decide) (hts (.fieldLink RX3 62 "NightPlots$Told" "feuds" "I") (List.mem_of_getElem? (i := 1) rfl)) (fun _ h9 => h9) rfl dX3_addFeud_38 ?_
        refine lv_iconst (v := (1 : Int32)) hx hb dX3_addFeud_41 (by decide) ?_
        refine lv_iadd hx hb dX3_addFeud_42 ?_
        refine lv_topi (fun x8 ex8 => ?_)
        replace hM := nm_at hM ex8
        refine va_put (ty := .int) hx hb hts hi3 tyX3 tyX3_ok nmX3 hown hK hP (hD.same rfl) hS 0 rfl rfl 3 (by decide) (hts (.fieldLink RX3 62 "NightPlots$Told" "feuds" "I") (List.mem_of_getElem? (i := 1) rfl)) (fun _ h9 => h9) rfl (by decide +kernel) rfl rfl (Nat.le_of_ble_eq_true rfl) dX3_addFeud_43 (fun H locs hP _ hS => ?_)
        obtain ⟨tT_9, etT_9⟩ : ∃ z : GS, z = (up2 tT_7 0 3 x8) := ⟨_, rfl⟩
        have hP : va_P D vwCl (cTold Y hT tT_9) H := by rw [etT_9]; exact hP
        replace hM := nm_at hM etT_9
        refine lv_iconst (v := (1 : Int32)) hx hb dX3_addFeud_46 (by decide) ?_
        cases hM
        rw [hQQ]
        exact W.zret (ty := .boolean) hx hb hr rfl (fun t ht hW => ⟨⟨_, (), rfl, rfl, by show va_P D vwCl _ t.heap; rw [ht]; exact hP⟩, hS.F ht⟩) hS.2.2 dX3_addFeud_47
      · replace hM := if_at_pos hM c3
        exact hJ1 hM H locs ls hP hS (lv_sub hl [] rfl)
noncomputable def MX3_otherEnd (tT : GS) (i1 : Int32) (i2 : Int32) : Option (Int32) := chkI i1 6 (if (tT 4 i1.toNatClampNeg) = i2 then (chkI i1 6 (some ((tT 5 i1.toNatClampNeg)))) else (chkI i1 6 (jn1 (fun (x4 : Int32) => some (x4)) (fun k5 => if (tT 5 i1.toNatClampNeg) = i2 then (chkI i1 6 (k5 (tT 4 i1.toNatClampNeg))) else (k5 (-1 : Int32))))))
abbrev rmX3_otherEnd : Room := { frames := 1, cells := 0, slots := 0, locals := 40 }
set_option maxHeartbeats 4000000 in
set_option maxRecDepth 100000 in
theorem ctX3_otherEnd (l : Launch) (D : va_G) (Y : Nat → ClassId) (hT : Nat → Nat) (sz : Nat) (tT : GS) (i1 : Int32) (i2 : Int32) (rr : Int32) (hM : MX3_otherEnd tT i1 i2 = some (rr)) : Met l yX3_otherEnd wsX3_otherEnd rmX3_otherEnd (pcW [.ref (hT 0), .int i1, .int i2] sz D Y (cTold Y hT tT)) (qiW rr D (cTold Y hT tT) (va_A (cTold Y hT tT) sz)) 0 0 (va_A (cTold Y hT tT) sz) := by
  refine Met.ofW (cc := cX3_otherEnd) (maxL := 3) (ret := (some .int)) (by decide) rfl ?_
  intro p e s m args below meth c s₁ B hml hv
  obtain ⟨rfl, hsz, hP, hK, hD0⟩ := hv
  have hx := B.exec
  have hb := B.bytes
  have hr := B.returns
  have hts := atoms_spec (ws := wsX3_otherEnd) B.pre
  have hown : s.vm.findClass RX3 = some m.cls := findClass_of_methodNamed B.named
  have hlocks := B.notSynchronized
  subst hsz
  have hD := hD0.self (sz := s.heap.size)
  generalize hAe : va_A (cTold Y hT tT) s.heap.size = A at hD ⊢
  have hA : ∀ q : Nat, s.heap.size ≤ q → A q := fun q h => by rw [← hAe]; exact Or.inr h
  have hS : va_S A s.heap s.heap [] := va_S.rf
  have hi3 : ∀ w ∈ wsX30, w ∈ wsX3_otherEnd := fun w h => List.mem_cons_of_mem _ (List.mem_append_right _ h)
  have hl := lv_entry ([.ref (hT 0), .int i1, .int i2]) (n := 3) (Nat.le_of_ble_eq_true rfl)
  rw [lg_entry_eq]
  generalize (lg_sl ([.ref (hT 0), .int i1, .int i2]) ++ List.replicate (3 - (lg_sl ([.ref (hT 0), .int i1, .int i2])).length) Slot.unset).toArray = ls at hl ⊢
  have hl : lv_has ls 3 [(0, .ref (hT 0)), (1, .int i1), (2, .int i2)] := hl
  obtain ⟨QQ, hQQ⟩ : ∃ Q : State → Prop, Q = MQ below (qiW rr D (cTold Y hT tT) A) ([.ref (hT 0), .int i1, .int i2] : List Value).toArray s 0 0 A := ⟨_, rfl⟩
  rw [← hQQ]
  unfold MX3_otherEnd at hM
  suffices hI : ∀ (H : Heap) (locs : List Loc), va_P D vwCl (cTold Y hT tT) H → va_S A s.heap H locs → W p l e (headSpec wsX3_otherEnd rmX3_otherEnd).room s m ([.ref (hT 0), .int i1, .int i2] : List Value).toArray below meth c H locs 0 0 QQ (F0 m 0 ls []) from hI _ _ hP hS
  clear hP hS
  intro H locs hP hS
  refine lv_aload_n hx hb dX3_otherEnd_0 rfl (lv_at hl 0 rfl) ?_
  refine va_get hx hb hts hi3 hown hK hP 0 rfl rfl 10 (by decide) (hts (.fieldLink RX3 21 "NightPlots$Told" "pathFrom" "[I") (List.mem_of_getElem? (i := 1) rfl)) (fun _ h9 => h9) rfl dX3_otherEnd_1 ?_
  refine lv_iload_n hx hb dX3_otherEnd_4 rfl (lv_at hl 1 rfl) ?_
  obtain ⟨hi_1, hM⟩ := chkI_at hM
  refine va_iald hx hb hK hP 4 0 rfl rfl hi_1 dX3_otherEnd_5 ?_
  refine lv_iload_n hx hb dX3_otherEnd_6 rfl (lv_at hl 2 rfl) ?_
  refine lv_icmp_ne (tgt := 17) hx hb dX3_otherEnd_7 (by decide) (fun c2 => ?_) (fun c2 => ?_)
  · replace hM := if_at_neg hM c2
    refine lv_aload_n hx hb dX3_otherEnd_17 rfl (lv_at hl 0 rfl) ?_
    refine va_get hx hb hts hi3 hown hK hP 0 rfl rfl 11 (by decide) (hts (.fieldLink RX3 24 "NightPlots$Told" "pathTo" "[I") (List.mem_of_getElem? (i := 2) rfl)) (fun _ h9 => h9) rfl dX3_otherEnd_18 ?_
    refine lv_iload_n hx hb dX3_otherEnd_21 rfl (lv_at hl 1 rfl) ?_
    obtain ⟨hi_3, hM⟩ := chkI_at hM
    refine va_iald hx hb hK hP 5 0 rfl rfl hi_3 dX3_otherEnd_22 ?_
    refine lv_iload_n hx hb dX3_otherEnd_23 rfl (lv_at hl 2 rfl) ?_
    refine jn1_at (fun (x4 : Int32) => ∀ (H : Heap) (locs : List Loc) (ls : Array Slot), va_P D vwCl (cTold Y hT tT) H → va_S A s.heap H locs → lv_has ls 3 [] → W p l e (headSpec wsX3_otherEnd rmX3_otherEnd).room s m ([.ref (hT 0), .int i1, .int i2] : List Value).toArray below meth c H locs 0 0 QQ (F0 m 37 ls [.int x4])) hM (fun x4 hM H locs ls hP hS hl => ?_) (fun k5 hJ5 hM => ?_)
    · cases hM
      rw [hQQ]
      exact W.iret hx hb hr (fun t ht hW => ⟨⟨_, (), rfl, rfl, by show va_P D vwCl _ t.heap; rw [ht]; exact hP⟩, hS.F ht⟩) hS.2.2 dX3_otherEnd_37
    · refine lv_icmp_ne (tgt := 36) hx hb dX3_otherEnd_24 (by decide) (fun c6 => ?_) (fun c6 => ?_)
      · replace hM := if_at_neg hM c6
        refine lv_iconst (v := (-1 : Int32)) hx hb dX3_otherEnd_36 (by decide) ?_
        exact hJ5 (-1 : Int32) hM H locs ls hP hS (lv_sub hl [] rfl)
      · replace hM := if_at_pos hM c6
        refine lv_aload_n hx hb dX3_otherEnd_27 rfl (lv_at hl 0 rfl) ?_
        refine va_get hx hb hts hi3 hown hK hP 0 rfl rfl 10 (by decide) (hts (.fieldLink RX3 21 "NightPlots$Told" "pathFrom" "[I") (List.mem_of_getElem? (i := 1) rfl)) (fun _ h9 => h9) rfl dX3_otherEnd_28 ?_
        refine lv_iload_n hx hb dX3_otherEnd_31 rfl (lv_at hl 1 rfl) ?_
        obtain ⟨hi_7, hM⟩ := chkI_at hM
        refine va_iald hx hb hK hP 4 0 rfl rfl hi_7 dX3_otherEnd_32 ?_
        refine lv_goto (tgt := 37) hx hb dX3_otherEnd_33 (by decide) ?_
        exact hJ5 (tT 4 i1.toNatClampNeg) hM H locs ls hP hS (lv_sub hl [] rfl)
  · replace hM := if_at_pos hM c2
    refine lv_aload_n hx hb dX3_otherEnd_10 rfl (lv_at hl 0 rfl) ?_
    refine va_get hx hb hts hi3 hown hK hP 0 rfl rfl 11 (by decide) (hts (.fieldLink RX3 24 "NightPlots$Told" "pathTo" "[I") (List.mem_of_getElem? (i := 2) rfl)) (fun _ h9 => h9) rfl dX3_otherEnd_11 ?_
    refine lv_iload_n hx hb dX3_otherEnd_14 rfl (lv_at hl 1 rfl) ?_
    obtain ⟨hi_8, hM⟩ := chkI_at hM
    refine va_iald hx hb hK hP 5 0 rfl rfl hi_8 dX3_otherEnd_15 ?_
    cases hM
    rw [hQQ]
    exact W.iret hx hb hr (fun t ht hW => ⟨⟨_, (), rfl, rfl, by show va_P D vwCl _ t.heap; rw [ht]; exact hP⟩, hS.F ht⟩) hS.2.2 dX3_otherEnd_16
