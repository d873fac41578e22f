/-! what the start gives: the class's words, statics of the JDK, classes, arrays' classes -/
abbrev tmJ (i : Nat) : Term := .string RX2 (ixJS.getD i 0)
abbrev flN : List Cond := flatC (Jvm.Cond.and given_1 narrow_1)
set_option maxRecDepth 100000 in
theorem fl_ex : ∀ i : Nat, i < 13 → (Cond.exactly (tmJ i) "java/lang/String") ∈ flN := by decide +kernel
set_option maxRecDepth 100000 in
theorem fl_co : ∀ i : Nat, i < 13 → (Cond.eq (.field (tmJ i) "java/lang/String" "coder" "B") (.int 0)) ∈ flN := by decide +kernel
set_option maxRecDepth 100000 in
theorem fl_ar : ∀ i : Nat, i < 13 → (Cond.arrayOf (.field (tmJ i) "java/lang/String" "value" "[B") .byte) ∈ flN := by decide +kernel
set_option maxRecDepth 100000 in
theorem fl_le : ∀ i : Nat, i < 13 → (Cond.eq (.length (.field (tmJ i) "java/lang/String" "value" "[B")) (.int (Int32.ofNat (lenJS.getD i 0)))) ∈ flN := by decide +kernel
set_option maxRecDepth 100000 in
theorem fl_el : ∀ i : Nat, i < 13 → ∀ j : Nat, j < lenJS.getD i 0 → (Cond.eq (.elem (.field (tmJ i) "java/lang/String" "value" "[B") (.int (Int32.ofNat j))) (.int ((bytJS.getD i []).getD j 0))) ∈ flN := by decide +kernel
set_option maxRecDepth 100000 in
theorem fl_ne0 : ∀ j : Nat, j < 13 → 0 < j → (Cond.not (Cond.eq (tmJ 0) (tmJ j))) ∈ flN := by decide +kernel
set_option maxRecDepth 100000 in
theorem fl_ne1 : ∀ j : Nat, j < 13 → 1 < j → (Cond.not (Cond.eq (tmJ 1) (tmJ j))) ∈ flN := by decide +kernel
set_option maxRecDepth 100000 in
theorem fl_ne2 : ∀ j : Nat, j < 13 → 2 < j → (Cond.not (Cond.eq (tmJ 2) (tmJ j))) ∈ flN := by decide +kernel
set_option maxRecDepth 100000 in
theorem fl_ne3 : ∀ j : Nat, j < 13 → 3 < j → (Cond.not (Cond.eq (tmJ 3) (tmJ j))) ∈ flN := by decide +kernel
set_option maxRecDepth 100000 in
theorem fl_ne4 : ∀ j : Nat, j < 13 → 4 < j → (Cond.not (Cond.eq (tmJ 4) (tmJ j))) ∈ flN := by decide +kernel
set_option maxRecDepth 100000 in
theorem fl_ne5 : ∀ j : Nat, j < 13 → 5 < j → (Cond.not (Cond.eq (tmJ 5) (tmJ j))) ∈ flN := by decide +kernel
set_option maxRecDepth 100000 in
theorem fl_ne6 : ∀ j : Nat, j < 13 → 6 < j → (Cond.not (Cond.eq (tmJ 6) (tmJ j))) ∈ flN := by decide +kernel
set_option maxRecDepth 100000 in
theorem fl_ne7 : ∀ j : Nat, j < 13 → 7 < j → (Cond.not (Cond.eq (tmJ 7) (tmJ j))) ∈ flN := by decide +kernel
set_option maxRecDepth 100000 in
theorem fl_ne8 : ∀ j : Nat, j < 13 → 8 < j → (Cond.not (Cond.eq (tmJ 8) (tmJ j))) ∈ flN := by decide +kernel
set_option maxRecDepth 100000 in
theorem fl_ne9 : ∀ j : Nat, j < 13 → 9 < j → (Cond.not (Cond.eq (tmJ 9) (tmJ j))) ∈ flN := by decide +kernel
set_option maxRecDepth 100000 in
theorem fl_ne10 : ∀ j : Nat, j < 13 → 10 < j → (Cond.not (Cond.eq (tmJ 10) (tmJ j))) ∈ flN := by decide +kernel
set_option maxRecDepth 100000 in
theorem fl_ne11 : ∀ j : Nat, j < 13 → 11 < j → (Cond.not (Cond.eq (tmJ 11) (tmJ j))) ∈ flN := by decide +kernel
theorem fl_lt : ∀ i : Nat, i < 13 → ∀ j : Nat, j < 13 → i < j → (Cond.not (Cond.eq (tmJ i) (tmJ j))) ∈ flN := by
  intro i hi j hj h
  rcases (show i = 0 ∨ i = 1 ∨ i = 2 ∨ i = 3 ∨ i = 4 ∨ i = 5 ∨ i = 6 ∨ i = 7 ∨ i = 8 ∨ i = 9 ∨ i = 10 ∨ i = 11 by omega) with rfl | rfl | rfl | rfl | rfl | rfl | rfl | rfl | rfl | rfl | rfl | rfl
  · exact fl_ne0 j hj h
  · exact fl_ne1 j hj h
  · exact fl_ne2 j hj h
  · exact fl_ne3 j hj h
  · exact fl_ne4 j hj h
  · exact fl_ne5 j hj h
  · exact fl_ne6 j hj h
  · exact fl_ne7 j hj h
  · exact fl_ne8 j hj h
  · exact fl_ne9 j hj h
  · exact fl_ne10 j hj h
  · exact fl_ne11 j hj h
theorem fl_ne : ∀ i : Nat, i < 13 → ∀ j : Nat, j < 13 → i ≠ j → (Cond.not (Cond.eq (tmJ i) (tmJ j))) ∈ flN ∨ (Cond.not (Cond.eq (tmJ j) (tmJ i))) ∈ flN := by
  intro i hi j hj h
  rcases Nat.lt_or_gt_of_ne h with c | c
  · exact Or.inl (fl_lt i hi j hj c)
  · exact Or.inr (fl_lt j hj i hi c)
set_option maxRecDepth 100000 in
theorem fl_cs : (Cond.eq (.static "java/lang/String" "COMPACT_STRINGS" "Z") (.int 1)) ∈ flN := by decide +kernel
set_option maxRecDepth 100000 in
theorem fl_sf : (Cond.isRef (.static "jdk/internal/util/Preconditions" "SIOOBE_FORMATTER" "Ljava/util/function/BiFunction;")) ∈ flN := by decide +kernel
set_option maxRecDepth 100000 in
set_option maxHeartbeats 4000000 in
theorem tb_str : ∀ w ∈ ([.stringRef RX2 37 "green", .stringRef RX2 46 "crop", .stringRef RX2 125 "narrow", .stringRef RX2 127 "cart", .stringRef RX2 129 "stuck", .stringRef RX2 131 "wide", .stringRef RX2 59 "path", .stringRef RX2 64 "feud", .stringRef RX2 69 "lot", .stringRef RX2 74 "clear", .stringRef RX2 133 "age", .stringRef RX2 135 "turn", .stringRef RX2 137 "rest"] : List Cond), w ∈ lw_tbl := mem_t _ [(2, 55), (2, 117), (2, 126), (2, 127), (2, 128), (2, 129), (2, 150), (2, 159), (2, 168), (2, 173), (2, 183), (2, 184), (2, 185)] rfl
theorem tb_lsCS : (Cond.laysStatic "java/lang/String" "COMPACT_STRINGS" "Z") ∈ lw_tbl := mem_t [Cond.laysStatic "java/lang/String" "COMPACT_STRINGS" "Z"] [(2, 69)] rfl _ List.mem_cons_self
theorem tb_inCS : (Cond.initialized "java/lang/String") ∈ lw_tbl := mem_t [Cond.initialized "java/lang/String"] [(1, 9)] rfl _ List.mem_cons_self
theorem tb_lsSF : (Cond.laysStatic "jdk/internal/util/Preconditions" "SIOOBE_FORMATTER" "Ljava/util/function/BiFunction;") ∈ lw_tbl := mem_t [Cond.laysStatic "jdk/internal/util/Preconditions" "SIOOBE_FORMATTER" "Ljava/util/function/BiFunction;"] [(2, 85)] rfl _ List.mem_cons_self
theorem tb_inSF : (Cond.initialized "jdk/internal/util/Preconditions") ∈ lw_tbl := mem_t [Cond.initialized "jdk/internal/util/Preconditions"] [(1, 11)] rfl _ List.mem_cons_self
theorem tb_nf : (Cond.fieldLinkNest RX0 50 "NightPlots$Standing" "told" "LNightPlots$Told;" RX4) ∈ lw_tbl := mem_t [Cond.fieldLinkNest RX0 50 "NightPlots$Standing" "told" "LNightPlots$Told;" RX4] [(1, 148)] rfl _ List.mem_cons_self
theorem tb_nm : (Cond.methodLinkNest RX4 183 yX0_reaches RX4) ∈ lw_tbl := mem_t [Cond.methodLinkNest RX4 183 yX0_reaches RX4] [(3, 158)] rfl _ List.mem_cons_self
theorem tb_nt : (Cond.methodLinkNest RX4 21 yX2_init RX4) ∈ lw_tbl := mem_t [Cond.methodLinkNest RX4 21 yX2_init RX4] [(1, 111)] rfl _ List.mem_cons_self
theorem tb_aoi : (Cond.arrayOver (.array .int)) ∈ lw_tbl := mem_t [Cond.arrayOver (.array .int)] [(1, 192)] rfl _ List.mem_cons_self
theorem tb_ao1 : (Cond.arrayOver (.object RX1)) ∈ lw_tbl := mem_t [Cond.arrayOver (.object RX1)] [(1, 184)] rfl _ List.mem_cons_self
theorem tb_aci : (Cond.arrayClass .int) ∈ lw_tbl := mem_t [Cond.arrayClass .int] [(1, 108)] rfl _ List.mem_cons_self
theorem tb_acl : (Cond.arrayClass .long) ∈ lw_tbl := mem_t [Cond.arrayClass .long] [(1, 214)] rfl _ List.mem_cons_self
theorem tb_acz : (Cond.arrayClass .boolean) ∈ lw_tbl := mem_t [Cond.arrayClass .boolean] [(1, 213)] rfl _ List.mem_cons_self
theorem tb_i0 : (Cond.instantiable RX0 6) ∈ lw_tbl := mem_t [Cond.instantiable RX0 6] [(1, 186)] rfl _ List.mem_cons_self
theorem tb_i1 : (Cond.instantiable RX1 9) ∈ lw_tbl := mem_t [Cond.instantiable RX1 9] [(1, 134)] rfl _ List.mem_cons_self
theorem tb_i2 : (Cond.instantiable RX2 5) ∈ lw_tbl := mem_t [Cond.instantiable RX2 5] [(1, 110)] rfl _ List.mem_cons_self
theorem tb_i3 : (Cond.instantiable RX3 14) ∈ lw_tbl := mem_t [Cond.instantiable RX3 14] [(1, 23)] rfl _ List.mem_cons_self
theorem tb_i4 : (Cond.instantiable RX4 14) ∈ lw_tbl := mem_t [Cond.instantiable RX4 14] [(1, 15)] rfl _ List.mem_cons_self
theorem tb_i5 : (Cond.instantiable RX5 40) ∈ lw_tbl := mem_t [Cond.instantiable RX5 40] [(3, 212)] rfl _ List.mem_cons_self
theorem tb_st : ∀ i : Nat, i < 13 → Cond.stringRef RX2 (ixJS.getD i 0) (txJS.getD i "") ∈ lw_tbl := by
  intro i hi
  rcases (show i = 0 ∨ i = 1 ∨ i = 2 ∨ i = 3 ∨ i = 4 ∨ i = 5 ∨ i = 6 ∨ i = 7 ∨ i = 8 ∨ i = 9 ∨ i = 10 ∨ i = 11 ∨ i = 12 by omega) with rfl | rfl | rfl | rfl | rfl | rfl | rfl | rfl | rfl | rfl | rfl | rfl | rfl
  · exact tb_str _ (List.mem_of_getElem? (i := 0) rfl)
  · exact tb_str _ (List.mem_of_getElem? (i := 1) rfl)
  · exact tb_str _ (List.mem_of_getElem? (i := 2) rfl)
  · exact tb_str _ (List.mem_of_getElem? (i := 3) rfl)
  · exact tb_str _ (List.mem_of_getElem? (i := 4) rfl)
  · exact tb_str _ (List.mem_of_getElem? (i := 5) rfl)
  · exact tb_str _ (List.mem_of_getElem? (i := 6) rfl)
  · exact tb_str _ (List.mem_of_getElem? (i := 7) rfl)
  · exact tb_str _ (List.mem_of_getElem? (i := 8) rfl)
  · exact tb_str _ (List.mem_of_getElem? (i := 9) rfl)
  · exact tb_str _ (List.mem_of_getElem? (i := 10) rfl)
  · exact tb_str _ (List.mem_of_getElem? (i := 11) rfl)
  · exact tb_str _ (List.mem_of_getElem? (i := 12) rfl)
theorem start_E {s : State} {b : Nat} (hts : ∀ w ∈ lw_tbl, w.before #[Value.ref b] s = true) (hf : ∀ w ∈ flN, w.before #[Value.ref b] s = true) : ∃ adK adV : Nat → Nat, sAll adK adV (fun q : Nat => s.heap.size ≤ q) s := by
  have hA : ∀ a : Nat, a < s.heap.size → ¬ (fun q : Nat => s.heap.size ≤ q) a := fun a h => Nat.not_le.mpr h
  obtain ⟨adK, adV, h1, h2⟩ := vk_Sof (N := 13) (tm := tmJ) (len := lenJS) (byt := bytJS) (A := fun q : Nat => s.heap.size ≤ q) lenJS_lt (fun i hi => hf _ (fl_ex i hi)) (fun i hi => hf _ (fl_co i hi)) (fun i hi => hf _ (fl_ar i hi)) (fun i hi => hf _ (fl_le i hi)) (fun i hi j hj => hf _ (fl_el i hi j hj)) (fun i j hi hj hn => (fl_ne i hi j hj hn).imp (hf _) (hf _)) hA
  exact ⟨adK, adV, h1, fun i hi => vk_R.of (hts _ (tb_st i hi)) (h2 i hi), va_Zof (hts _ tb_lsCS) (hts _ tb_inCS) (va_eqt (hf _ fl_cs)) hA, va_Zqof (hts _ tb_lsSF) (hts _ tb_inSF) (hf _ fl_sf) hA⟩
theorem ar_prim {s : State} {args : Array Value} {ty : FieldType} (h : (Cond.arrayClass ty).before args s = true) (hR : ∀ cA, s.vm.findClass ("[" ++ ty.toString) = some cA → va_RA s cA ty) : ∃ cA, ArrOfT s cA ty ∧ va_RA s cA ty := by
  obtain ⟨cA, kA, comp, h1, h2, h3⟩ := Cond.arrayClass_spec h
  exact ⟨cA, fun n z => ⟨fun k h => (by cases h), kA, h2, comp, h3⟩, hR cA h1⟩
theorem ar_obj {s : State} {args : Array Value} {C : String} (h : (Cond.arrayOver (.object C)).before args s = true) : ∃ cA, ArrOfT s cA (.object C) ∧ va_RA s cA (.object C) := by
  obtain ⟨comp, cA, kA, h1, h2, h3, h4, h5⟩ := Cond.arrayOver_spec h
  exact ⟨cA, fun n z => ⟨fun k h => (by cases h), kA, h3, comp, h4⟩, kA, comp, h3, h4, h1, h5⟩
theorem ar_arr {s : State} {args : Array Value} {t : FieldType} (h : (Cond.arrayOver (.array t)).before args s = true) : ∃ cA, ArrOfT s cA (.array t) ∧ va_RA s cA (.array t) := by
  obtain ⟨comp, cA, kA, h1, h2, h3, h4, h5⟩ := Jvm.Stand.arrayOver_specB h
  exact ⟨cA, fun n z => ⟨fun k h => (by cases h), kA, h3, comp, h4⟩, h5⟩
theorem start_K {s : State} {b : Nat} (hts0 : ∀ w ∈ lw_tbl, w.before #[Value.ref b] s = true) : ∃ (D : va_G) (Y : Nat → ClassId), va_K D vwCl (tysW Y) s := by
  have hts : ∀ w ∈ wsL_law, w.before #[Value.ref b] s = true := fun w h => hts0 w (wsL_law_in w h)
  obtain ⟨c0, i0, k0⟩ := u_known (C := RX0) (T := TX0) (N := 6) (n := 6) hts inlX0 (hts0 _ tb_i0)
  obtain ⟨c1, i1, k1⟩ := u_known (C := RX1) (T := TX1) (N := 9) (n := 9) hts inlX1 (hts0 _ tb_i1)
  obtain ⟨c2, i2, k2⟩ := u_known (C := RX2) (T := TX2) (N := 5) (n := 5) hts inlX2 (hts0 _ tb_i2)
  obtain ⟨c3, i3, k3⟩ := u_known (C := RX3) (T := TX3) (N := 14) (n := 14) hts inlX3 (hts0 _ tb_i3)
  obtain ⟨c4, i4, k4⟩ := u_known (C := RX4) (T := TX4) (N := 14) (n := 14) hts inlX4 (hts0 _ tb_i4)
  obtain ⟨c5, i5, k5⟩ := u_known (C := RX5) (T := TX5) (N := 40) (n := 40) hts inlX5 (hts0 _ tb_i5)
  obtain ⟨y0, a0, r0⟩ := ar_prim (hts0 _ tb_aci) (fun _ h => h)
  obtain ⟨y1, a1, r1⟩ := ar_prim (hts0 _ tb_acl) (fun _ h => h)
  obtain ⟨y2, a2, r2⟩ := ar_prim (hts0 _ tb_acz) (fun _ h => h)
  obtain ⟨y3, a3, r3⟩ := ar_obj (hts0 _ tb_ao1)
  obtain ⟨y4, a4, r4⟩ := ar_arr (hts0 _ tb_aoi)
  refine ⟨(fun k => match k with | 0 => c0 | 1 => c1 | 2 => c2 | 3 => c3 | 4 => c4 | _ => c5, fun k => match k with | 0 => i0 | 1 => i1 | 2 => i2 | 3 => i3 | 4 => i4 | _ => i5), (fun k => match k with | 0 => y0 | 1 => y1 | 2 => y2 | 3 => y3 | _ => y4), fun k q hq => ?_, fun k q hq => ?_⟩
  · match k, hq with
    | 0, hq => cases hq; exact k0
    | 1, hq => cases hq; exact k1
    | 2, hq => cases hq; exact k2
    | 3, hq => cases hq; exact k3
    | 4, hq => cases hq; exact k4
    | 5, hq => cases hq; exact k5
    | k + 6, hq => simp [vwCl] at hq
  · match k, hq with
    | 0, hq => cases hq; exact ⟨a0, r0⟩
    | 1, hq => cases hq; exact ⟨a1, r1⟩
    | 2, hq => cases hq; exact ⟨a2, r2⟩
    | 3, hq => cases hq; exact ⟨a3, r3⟩
    | 4, hq => cases hq; exact ⟨a4, r4⟩
    | k + 5, hq => simp [tysW] at hq
