/-! the law's cases 15 .. 19 -/
set_option maxHeartbeats 4000000 in
set_option maxRecDepth 100000 in
theorem lc_when {p : Program} {l : Launch} {e : Env} {s : State} {m : MethodId} {below : List Frame} {meth : Method} {c : Code} {Q : State → Prop} {D : va_G} {Y : Nat → ClassId} {v : Nat → Nat → Nat} {u : Nat → Nat} {adK adV : Nat → Nat} {b L : Nat} {xs : Nat → Int32}
    (S : LwS p s m c b L xs D Y adK adV) {x : Int32} (h1 : vp_in (x + 1) L) (h2 : vp_in (x + 2) L) (h3 : vp_in (x + 3) L) (h4 : vp_in (x + 4) L) {H : Heap} {locs : List Loc} (hW : Wd D Y v u s H locs) {ls : Array Slot} (hl : lv_has ls 4 [(3, .int x), (2, .ref (u 0)), (1, .ref (v 0 0)), (0, .ref b)])
    (kk : ∀ (H1 : Heap) (locs1 : List Loc), Wd D Y v u s H1 locs1 → W p l e room_1 s m #[Value.ref b] below meth c H1 locs1 600000 7302250 Q (F0 m 923 ls [])) : W p l e room_1 s m #[Value.ref b] below meth c H locs 600000 7302250 Q (F0 m 583 ls []) := by
  obtain ⟨hx, hb, hml, hown, hts, hX, hbl, hK, hNf, hNm, hE⟩ := S
  obtain ⟨nS, tT, tD, xT, gN, fN, gA, fA, gK, gL, zZ, lZ, fW, lP, mM, tk, hI, hP, hD, hS⟩ := hW
  have hA : ∀ q : Nat, s.heap.size ≤ q → (fun q : Nat => s.heap.size ≤ q) q := fun _ h => h
  have hbA : ¬ (fun q : Nat => s.heap.size ≤ q) b := Nat.not_le.mpr hbl
  obtain ⟨r, gAz, fAz, mMz, e1, e2, hI⟩ := v_when hI gA fA (xs (x + 1).toNatClampNeg) (xs (x + 2).toNatClampNeg) (xs (x + 3).toNatClampNeg)
  refine lv_aload_n hx hb dL_law_583 rfl (lv_at hl 2 rfl) ?_
  refine lv_aload_n hx hb dL_law_584 rfl (lv_at hl 3 rfl) ?_
  refine lv_iload_n hx hb dL_law_585 rfl (lv_at hl 0 rfl) ?_
  refine lv_iconst (v := (1 : Int32)) hx hb dL_law_586 (by decide) ?_
  refine lv_iadd hx hb dL_law_587 ?_
  refine va_sld hx hb hX hbl hbA hS h1 dL_law_588 ?_
  refine lv_aload_n hx hb dL_law_589 rfl (lv_at hl 3 rfl) ?_
  refine lv_iload_n hx hb dL_law_590 rfl (lv_at hl 0 rfl) ?_
  refine lv_iconst (v := (2 : Int32)) hx hb dL_law_591 (by decide) ?_
  refine lv_iadd hx hb dL_law_592 ?_
  refine va_sld hx hb hX hbl hbA hS h2 dL_law_593 ?_
  refine lv_aload_n hx hb dL_law_594 rfl (lv_at hl 3 rfl) ?_
  refine lv_iload_n hx hb dL_law_595 rfl (lv_at hl 0 rfl) ?_
  refine lv_iconst (v := (3 : Int32)) hx hb dL_law_596 (by decide) ?_
  refine lv_iadd hx hb dL_law_597 ?_
  refine va_sld hx hb hX hbl hbA hS h3 dL_law_598 ?_
  replace hP := P_perm hP pw_0_1_4_6_7
  replace hD := D_perm hD pw_0_1_4_6_7
  refine cl_w (wr := cTold Y (v 2) tD ++ cText Y (v 3) xT ++ cRow Y (v 4 3) 8 fN ++ cStand Y (v 6) (v 1 0) (v 6 3) gK ++ cStand Y (v 7) (v 1 0) (v 7 3) gL ++ cSearch Y (v 8) (v 5 0) zZ lZ ++ cRow Y (v 9 0) 8 fW ++ cLong Y (v 9 1) 501 lP ++ cMod Y u mM tk) (va_runV (As := [.int (xs (x + 1).toNatClampNeg), .int (xs (x + 2).toNatClampNeg), .int (xs (x + 3).toNatClampNeg)]) (rest := []) ⟨hx, hb, hml, hown, hts⟩ (ctX4_when l D Y (v 0) (v 1) (v 4) (v 5) (v 5 3) (v 2 0) (v 3 0) (v 8 0) (v 9 0) (v 9 1) (v 6 0) (v 7 0) (v 4 3) H.size nS tT gN gA fA (xs (x + 1).toNatClampNeg) (xs (x + 2).toNatClampNeg) (xs (x + 3).toNatClampNeg) r gAz fAz e1) (cwV 3 hts gL_law_X4_when rfl rfl rfl (by decide +kernel) ⟨Nat.le_of_ble_eq_true rfl, Nat.le_of_ble_eq_true rfl⟩) (pcW_FV hK hP hD rfl) rfl rfl hl.1 rfl (lv_room (Nat.le_of_ble_eq_true rfl)) dL_law_599 ⟨Nat.le_of_ble_eq_true rfl, Nat.le_of_ble_eq_true rfl⟩) hP hD hS hA rfl (fun H locs hP hD hS => ?_)
  have hP : va_P D vwCl (wX Y v nS tT tD xT gN fN gAz fAz gK gL zZ lZ fW lP ++ cMod Y u mM tk) H := P_perm hP pw_0_1_4_6_7.symm
  have hD : va_D (fun q : Nat => s.heap.size ≤ q) (wX Y v nS tT tD xT gN fN gAz fAz gK gL zZ lZ fW lP ++ cMod Y u mM tk) := D_perm hD pw_0_1_4_6_7.symm
  refine lv_aload_n hx hb dL_law_602 rfl (lv_at hl 1 rfl) ?_
  refine lv_aload_n hx hb dL_law_603 rfl (lv_at hl 3 rfl) ?_
  refine lv_iload_n hx hb dL_law_604 rfl (lv_at hl 0 rfl) ?_
  refine lv_iconst (v := (1 : Int32)) hx hb dL_law_605 (by decide) ?_
  refine lv_iadd hx hb dL_law_606 ?_
  refine va_sld hx hb hX hbl hbA hS h1 dL_law_607 ?_
  refine lv_aload_n hx hb dL_law_608 rfl (lv_at hl 3 rfl) ?_
  refine lv_iload_n hx hb dL_law_609 rfl (lv_at hl 0 rfl) ?_
  refine lv_iconst (v := (2 : Int32)) hx hb dL_law_610 (by decide) ?_
  refine lv_iadd hx hb dL_law_611 ?_
  refine va_sld hx hb hX hbl hbA hS h2 dL_law_612 ?_
  refine lv_aload_n hx hb dL_law_613 rfl (lv_at hl 3 rfl) ?_
  refine lv_iload_n hx hb dL_law_614 rfl (lv_at hl 0 rfl) ?_
  refine lv_iconst (v := (3 : Int32)) hx hb dL_law_615 (by decide) ?_
  refine lv_iadd hx hb dL_law_616 ?_
  refine va_sld hx hb hX hbl hbA hS h3 dL_law_617 ?_
  replace hP := P_perm hP List.perm_append_comm
  replace hD := D_perm hD List.perm_append_comm
  refine cl_w (wr := wX Y v nS tT tD xT gN fN gAz fAz gK gL zZ lZ fW lP) (va_runV (As := [.int (xs (x + 1).toNatClampNeg), .int (xs (x + 2).toNatClampNeg), .int (xs (x + 3).toNatClampNeg)]) (rest := [.int r]) ⟨hx, hb, hml, hown, hts⟩ (ctX5_when l D Y u H.size mM tk (xs (x + 1).toNatClampNeg) (xs (x + 2).toNatClampNeg) (xs (x + 3).toNatClampNeg) r mMz e2) (cwV 3 hts gL_law_X5_when rfl rfl rfl (by decide +kernel) ⟨Nat.le_of_ble_eq_true rfl, Nat.le_of_ble_eq_true rfl⟩) (pcW_FV hK hP hD rfl) rfl rfl hl.1 rfl (lv_room (Nat.le_of_ble_eq_true rfl)) dL_law_618 ⟨Nat.le_of_ble_eq_true rfl, Nat.le_of_ble_eq_true rfl⟩) hP hD hS hA rfl (fun H locs hP hD hS => ?_)
  refine lv_icmp_eq (tgt := 923) hx hb dL_law_621 (by decide) (fun _ => kk _ _ ⟨nS, tT, tD, xT, gN, fN, gAz, fAz, gK, gL, zZ, lZ, fW, lP, mMz, tk, hI, P_perm hP List.perm_append_comm, D_perm hD List.perm_append_comm, hS⟩) (fun z => absurd rfl z)
set_option maxHeartbeats 4000000 in
set_option maxRecDepth 100000 in
theorem lc_often {p : Program} {l : Launch} {e : Env} {s : State} {m : MethodId} {below : List Frame} {meth : Method} {c : Code} {Q : State → Prop} {D : va_G} {Y : Nat → ClassId} {v : Nat → Nat → Nat} {u : Nat → Nat} {adK adV : Nat → Nat} {b L : Nat} {xs : Nat → Int32}
    (S : LwS p s m c b L xs D Y adK adV) {x : Int32} (h1 : vp_in (x + 1) L) (h2 : vp_in (x + 2) L) (h3 : vp_in (x + 3) L) (h4 : vp_in (x + 4) L) {H : Heap} {locs : List Loc} (hW : Wd D Y v u s H locs) {ls : Array Slot} (hl : lv_has ls 4 [(3, .int x), (2, .ref (u 0)), (1, .ref (v 0 0)), (0, .ref b)])
    (kk : ∀ (H1 : Heap) (locs1 : List Loc), Wd D Y v u s H1 locs1 → W p l e room_1 s m #[Value.ref b] below meth c H1 locs1 600000 7302250 Q (F0 m 923 ls [])) : W p l e room_1 s m #[Value.ref b] below meth c H locs 600000 7302250 Q (F0 m 626 ls []) := by
  obtain ⟨hx, hb, hml, hown, hts, hX, hbl, hK, hNf, hNm, hE⟩ := S
  obtain ⟨nS, tT, tD, xT, gN, fN, gA, fA, gK, gL, zZ, lZ, fW, lP, mM, tk, hI, hP, hD, hS⟩ := hW
  have hA : ∀ q : Nat, s.heap.size ≤ q → (fun q : Nat => s.heap.size ≤ q) q := fun _ h => h
  have hbA : ¬ (fun q : Nat => s.heap.size ≤ q) b := Nat.not_le.mpr hbl
  obtain ⟨r, gAz, fAz, mMz, e1, e2, hI⟩ := v_often hI gA fA (xs (x + 1).toNatClampNeg) (xs (x + 2).toNatClampNeg) (xs (x + 3).toNatClampNeg) (xs (x + 4).toNatClampNeg)
  refine lv_aload_n hx hb dL_law_626 rfl (lv_at hl 2 rfl) ?_
  refine lv_aload_n hx hb dL_law_627 rfl (lv_at hl 3 rfl) ?_
  refine lv_iload_n hx hb dL_law_628 rfl (lv_at hl 0 rfl) ?_
  refine lv_iconst (v := (1 : Int32)) hx hb dL_law_629 (by decide) ?_
  refine lv_iadd hx hb dL_law_630 ?_
  refine va_sld hx hb hX hbl hbA hS h1 dL_law_631 ?_
  refine lv_aload_n hx hb dL_law_632 rfl (lv_at hl 3 rfl) ?_
  refine lv_iload_n hx hb dL_law_633 rfl (lv_at hl 0 rfl) ?_
  refine lv_iconst (v := (2 : Int32)) hx hb dL_law_634 (by decide) ?_
  refine lv_iadd hx hb dL_law_635 ?_
  refine va_sld hx hb hX hbl hbA hS h2 dL_law_636 ?_
  refine lv_aload_n hx hb dL_law_637 rfl (lv_at hl 3 rfl) ?_
  refine lv_iload_n hx hb dL_law_638 rfl (lv_at hl 0 rfl) ?_
  refine lv_iconst (v := (3 : Int32)) hx hb dL_law_639 (by decide) ?_
  refine lv_iadd hx hb dL_law_640 ?_
  refine va_sld hx hb hX hbl hbA hS h3 dL_law_641 ?_
  refine lv_aload_n hx hb dL_law_642 rfl (lv_at hl 3 rfl) ?_
  refine lv_iload_n hx hb dL_law_643 rfl (lv_at hl 0 rfl) ?_
  refine lv_iconst (v := (4 : Int32)) hx hb dL_law_644 (by decide) ?_
  refine lv_iadd hx hb dL_law_645 ?_
  refine va_sld hx hb hX hbl hbA hS h4 dL_law_646 ?_
  replace hP := P_perm hP pw_0_1_4_6_7
  replace hD := D_perm hD pw_0_1_4_6_7
  refine cl_w (wr := cTold Y (v 2) tD ++ cText Y (v 3) xT ++ cRow Y (v 4 3) 8 fN ++ cStand Y (v 6) (v 1 0) (v 6 3) gK ++ cStand Y (v 7) (v 1 0) (v 7 3) gL ++ cSearch Y (v 8) (v 5 0) zZ lZ ++ cRow Y (v 9 0) 8 fW ++ cLong Y (v 9 1) 501 lP ++ cMod Y u mM tk) (va_runV (As := [.int (xs (x + 1).toNatClampNeg), .int (xs (x + 2).toNatClampNeg), .int (xs (x + 3).toNatClampNeg), .int (xs (x + 4).toNatClampNeg)]) (rest := []) ⟨hx, hb, hml, hown, hts⟩ (ctX4_often l D Y (v 0) (v 1) (v 4) (v 5) (v 5 3) (v 2 0) (v 3 0) (v 8 0) (v 9 0) (v 9 1) (v 6 0) (v 7 0) (v 4 3) H.size nS tT gN gA fA (xs (x + 1).toNatClampNeg) (xs (x + 2).toNatClampNeg) (xs (x + 3).toNatClampNeg) (xs (x + 4).toNatClampNeg) r gAz fAz e1) (cwV 4 hts gL_law_X4_often rfl rfl rfl (by decide +kernel) ⟨Nat.le_of_ble_eq_true rfl, Nat.le_of_ble_eq_true rfl⟩) (pcW_FV hK hP hD rfl) rfl rfl hl.1 rfl (lv_room (Nat.le_of_ble_eq_true rfl)) dL_law_647 ⟨Nat.le_of_ble_eq_true rfl, Nat.le_of_ble_eq_true rfl⟩) hP hD hS hA rfl (fun H locs hP hD hS => ?_)
  have hP : va_P D vwCl (wX Y v nS tT tD xT gN fN gAz fAz gK gL zZ lZ fW lP ++ cMod Y u mM tk) H := P_perm hP pw_0_1_4_6_7.symm
  have hD : va_D (fun q : Nat => s.heap.size ≤ q) (wX Y v nS tT tD xT gN fN gAz fAz gK gL zZ lZ fW lP ++ cMod Y u mM tk) := D_perm hD pw_0_1_4_6_7.symm
  refine lv_aload_n hx hb dL_law_650 rfl (lv_at hl 1 rfl) ?_
  refine lv_aload_n hx hb dL_law_651 rfl (lv_at hl 3 rfl) ?_
  refine lv_iload_n hx hb dL_law_652 rfl (lv_at hl 0 rfl) ?_
  refine lv_iconst (v := (1 : Int32)) hx hb dL_law_653 (by decide) ?_
  refine lv_iadd hx hb dL_law_654 ?_
  refine va_sld hx hb hX hbl hbA hS h1 dL_law_655 ?_
  refine lv_aload_n hx hb dL_law_656 rfl (lv_at hl 3 rfl) ?_
  refine lv_iload_n hx hb dL_law_657 rfl (lv_at hl 0 rfl) ?_
  refine lv_iconst (v := (2 : Int32)) hx hb dL_law_658 (by decide) ?_
  refine lv_iadd hx hb dL_law_659 ?_
  refine va_sld hx hb hX hbl hbA hS h2 dL_law_660 ?_
  refine lv_aload_n hx hb dL_law_661 rfl (lv_at hl 3 rfl) ?_
  refine lv_iload_n hx hb dL_law_662 rfl (lv_at hl 0 rfl) ?_
  refine lv_iconst (v := (3 : Int32)) hx hb dL_law_663 (by decide) ?_
  refine lv_iadd hx hb dL_law_664 ?_
  refine va_sld hx hb hX hbl hbA hS h3 dL_law_665 ?_
  refine lv_aload_n hx hb dL_law_666 rfl (lv_at hl 3 rfl) ?_
  refine lv_iload_n hx hb dL_law_667 rfl (lv_at hl 0 rfl) ?_
  refine lv_iconst (v := (4 : Int32)) hx hb dL_law_668 (by decide) ?_
  refine lv_iadd hx hb dL_law_669 ?_
  refine va_sld hx hb hX hbl hbA hS h4 dL_law_670 ?_
  replace hP := P_perm hP List.perm_append_comm
  replace hD := D_perm hD List.perm_append_comm
  refine cl_w (wr := wX Y v nS tT tD xT gN fN gAz fAz gK gL zZ lZ fW lP) (va_runV (As := [.int (xs (x + 1).toNatClampNeg), .int (xs (x + 2).toNatClampNeg), .int (xs (x + 3).toNatClampNeg), .int (xs (x + 4).toNatClampNeg)]) (rest := [.int r]) ⟨hx, hb, hml, hown, hts⟩ (ctX5_often l D Y u H.size mM tk (xs (x + 1).toNatClampNeg) (xs (x + 2).toNatClampNeg) (xs (x + 3).toNatClampNeg) (xs (x + 4).toNatClampNeg) r mMz e2) (cwV 4 hts gL_law_X5_often rfl rfl rfl (by decide +kernel) ⟨Nat.le_of_ble_eq_true rfl, Nat.le_of_ble_eq_true rfl⟩) (pcW_FV hK hP hD rfl) rfl rfl hl.1 rfl (lv_room (Nat.le_of_ble_eq_true rfl)) dL_law_671 ⟨Nat.le_of_ble_eq_true rfl, Nat.le_of_ble_eq_true rfl⟩) hP hD hS hA rfl (fun H locs hP hD hS => ?_)
  refine lv_icmp_eq (tgt := 923) hx hb dL_law_674 (by decide) (fun _ => kk _ _ ⟨nS, tT, tD, xT, gN, fN, gAz, fAz, gK, gL, zZ, lZ, fW, lP, mMz, tk, hI, P_perm hP List.perm_append_comm, D_perm hD List.perm_append_comm, hS⟩) (fun z => absurd rfl z)
set_option maxHeartbeats 4000000 in
set_option maxRecDepth 100000 in
theorem lc_brings {p : Program} {l : Launch} {e : Env} {s : State} {m : MethodId} {below : List Frame} {meth : Method} {c : Code} {Q : State → Prop} {D : va_G} {Y : Nat → ClassId} {v : Nat → Nat → Nat} {u : Nat → Nat} {adK adV : Nat → Nat} {b L : Nat} {xs : Nat → Int32}
    (S : LwS p s m c b L xs D Y adK adV) {x : Int32} (h1 : vp_in (x + 1) L) (h2 : vp_in (x + 2) L) (h3 : vp_in (x + 3) L) (h4 : vp_in (x + 4) L) {H : Heap} {locs : List Loc} (hW : Wd D Y v u s H locs) {ls : Array Slot} (hl : lv_has ls 4 [(3, .int x), (2, .ref (u 0)), (1, .ref (v 0 0)), (0, .ref b)])
    (kk : ∀ (H1 : Heap) (locs1 : List Loc), Wd D Y v u s H1 locs1 → W p l e room_1 s m #[Value.ref b] below meth c H1 locs1 600000 7302250 Q (F0 m 923 ls [])) : W p l e room_1 s m #[Value.ref b] below meth c H locs 600000 7302250 Q (F0 m 679 ls []) := by
  obtain ⟨hx, hb, hml, hown, hts, hX, hbl, hK, hNf, hNm, hE⟩ := S
  obtain ⟨nS, tT, tD, xT, gN, fN, gA, fA, gK, gL, zZ, lZ, fW, lP, mM, tk, hI, hP, hD, hS⟩ := hW
  have hA : ∀ q : Nat, s.heap.size ≤ q → (fun q : Nat => s.heap.size ≤ q) q := fun _ h => h
  have hbA : ¬ (fun q : Nat => s.heap.size ≤ q) b := Nat.not_le.mpr hbl
  obtain ⟨r, gAz, fAz, mMz, e1, e2, hI⟩ := v_brings hI gA fA (xs (x + 1).toNatClampNeg) (xs (x + 2).toNatClampNeg)
  refine lv_aload_n hx hb dL_law_679 rfl (lv_at hl 2 rfl) ?_
  refine lv_aload_n hx hb dL_law_680 rfl (lv_at hl 3 rfl) ?_
  refine lv_iload_n hx hb dL_law_681 rfl (lv_at hl 0 rfl) ?_
  refine lv_iconst (v := (1 : Int32)) hx hb dL_law_682 (by decide) ?_
  refine lv_iadd hx hb dL_law_683 ?_
  refine va_sld hx hb hX hbl hbA hS h1 dL_law_684 ?_
  refine lv_aload_n hx hb dL_law_685 rfl (lv_at hl 3 rfl) ?_
  refine lv_iload_n hx hb dL_law_686 rfl (lv_at hl 0 rfl) ?_
  refine lv_iconst (v := (2 : Int32)) hx hb dL_law_687 (by decide) ?_
  refine lv_iadd hx hb dL_law_688 ?_
  refine va_sld hx hb hX hbl hbA hS h2 dL_law_689 ?_
  replace hP := P_perm hP pw_0_1_4_6_7
  replace hD := D_perm hD pw_0_1_4_6_7
  refine cl_w (wr := cTold Y (v 2) tD ++ cText Y (v 3) xT ++ cRow Y (v 4 3) 8 fN ++ cStand Y (v 6) (v 1 0) (v 6 3) gK ++ cStand Y (v 7) (v 1 0) (v 7 3) gL ++ cSearch Y (v 8) (v 5 0) zZ lZ ++ cRow Y (v 9 0) 8 fW ++ cLong Y (v 9 1) 501 lP ++ cMod Y u mM tk) (va_runV (As := [.int (xs (x + 1).toNatClampNeg), .int (xs (x + 2).toNatClampNeg)]) (rest := []) ⟨hx, hb, hml, hown, hts⟩ (ctX4_brings l D Y (v 0) (v 1) (v 4) (v 5) (v 5 3) (v 2 0) (v 3 0) (v 8 0) (v 9 0) (v 9 1) (v 6 0) (v 7 0) (v 4 3) H.size nS tT gN gA fA (xs (x + 1).toNatClampNeg) (xs (x + 2).toNatClampNeg) r gAz fAz e1) (cwV 2 hts gL_law_X4_brings rfl rfl rfl (by decide +kernel) ⟨Nat.le_of_ble_eq_true rfl, Nat.le_of_ble_eq_true rfl⟩) (pcW_FV hK hP hD rfl) rfl rfl hl.1 rfl (lv_room (Nat.le_of_ble_eq_true rfl)) dL_law_690 ⟨Nat.le_of_ble_eq_true rfl, Nat.le_of_ble_eq_true rfl⟩) hP hD hS hA rfl (fun H locs hP hD hS => ?_)
  have hP : va_P D vwCl (wX Y v nS tT tD xT gN fN gAz fAz gK gL zZ lZ fW lP ++ cMod Y u mM tk) H := P_perm hP pw_0_1_4_6_7.symm
  have hD : va_D (fun q : Nat => s.heap.size ≤ q) (wX Y v nS tT tD xT gN fN gAz fAz gK gL zZ lZ fW lP ++ cMod Y u mM tk) := D_perm hD pw_0_1_4_6_7.symm
  refine lv_aload_n hx hb dL_law_693 rfl (lv_at hl 1 rfl) ?_
  refine lv_aload_n hx hb dL_law_694 rfl (lv_at hl 3 rfl) ?_
  refine lv_iload_n hx hb dL_law_695 rfl (lv_at hl 0 rfl) ?_
  refine lv_iconst (v := (1 : Int32)) hx hb dL_law_696 (by decide) ?_
  refine lv_iadd hx hb dL_law_697 ?_
  refine va_sld hx hb hX hbl hbA hS h1 dL_law_698 ?_
  refine lv_aload_n hx hb dL_law_699 rfl (lv_at hl 3 rfl) ?_
  refine lv_iload_n hx hb dL_law_700 rfl (lv_at hl 0 rfl) ?_
  refine lv_iconst (v := (2 : Int32)) hx hb dL_law_701 (by decide) ?_
  refine lv_iadd hx hb dL_law_702 ?_
  refine va_sld hx hb hX hbl hbA hS h2 dL_law_703 ?_
  replace hP := P_perm hP List.perm_append_comm
  replace hD := D_perm hD List.perm_append_comm
  refine cl_w (wr := wX Y v nS tT tD xT gN fN gAz fAz gK gL zZ lZ fW lP) (va_runV (As := [.int (xs (x + 1).toNatClampNeg), .int (xs (x + 2).toNatClampNeg)]) (rest := [.int r]) ⟨hx, hb, hml, hown, hts⟩ (ctX5_brings l D Y u H.size mM tk (xs (x + 1).toNatClampNeg) (xs (x + 2).toNatClampNeg) r mMz e2) (cwV 2 hts gL_law_X5_brings rfl rfl rfl (by decide +kernel) ⟨Nat.le_of_ble_eq_true rfl, Nat.le_of_ble_eq_true rfl⟩) (pcW_FV hK hP hD rfl) rfl rfl hl.1 rfl (lv_room (Nat.le_of_ble_eq_true rfl)) dL_law_704 ⟨Nat.le_of_ble_eq_true rfl, Nat.le_of_ble_eq_true rfl⟩) hP hD hS hA rfl (fun H locs hP hD hS => ?_)
  refine lv_icmp_eq (tgt := 923) hx hb dL_law_707 (by decide) (fun _ => kk _ _ ⟨nS, tT, tD, xT, gN, fN, gAz, fAz, gK, gL, zZ, lZ, fW, lP, mMz, tk, hI, P_perm hP List.perm_append_comm, D_perm hD List.perm_append_comm, hS⟩) (fun z => absurd rfl z)
set_option maxHeartbeats 4000000 in
set_option maxRecDepth 100000 in
theorem lc_feuding {p : Program} {l : Launch} {e : Env} {s : State} {m : MethodId} {below : List Frame} {meth : Method} {c : Code} {Q : State → Prop} {D : va_G} {Y : Nat → ClassId} {v : Nat → Nat → Nat} {u : Nat → Nat} {adK adV : Nat → Nat} {b L : Nat} {xs : Nat → Int32}
    (S : LwS p s m c b L xs D Y adK adV) {x : Int32} (h1 : vp_in (x + 1) L) (h2 : vp_in (x + 2) L) (h3 : vp_in (x + 3) L) (h4 : vp_in (x + 4) L) {H : Heap} {locs : List Loc} (hW : Wd D Y v u s H locs) {ls : Array Slot} (hl : lv_has ls 4 [(3, .int x), (2, .ref (u 0)), (1, .ref (v 0 0)), (0, .ref b)])
    (kk : ∀ (H1 : Heap) (locs1 : List Loc), Wd D Y v u s H1 locs1 → W p l e room_1 s m #[Value.ref b] below meth c H1 locs1 600000 7302250 Q (F0 m 923 ls [])) : W p l e room_1 s m #[Value.ref b] below meth c H locs 600000 7302250 Q (F0 m 712 ls []) := by
  obtain ⟨hx, hb, hml, hown, hts, hX, hbl, hK, hNf, hNm, hE⟩ := S
  obtain ⟨nS, tT, tD, xT, gN, fN, gA, fA, gK, gL, zZ, lZ, fW, lP, mM, tk, hI, hP, hD, hS⟩ := hW
  have hA : ∀ q : Nat, s.heap.size ≤ q → (fun q : Nat => s.heap.size ≤ q) q := fun _ h => h
  have hbA : ¬ (fun q : Nat => s.heap.size ≤ q) b := Nat.not_le.mpr hbl
  obtain ⟨r, gAz, fAz, mMz, e1, e2, hI⟩ := v_feuding hI gA fA (xs (x + 1).toNatClampNeg)
  refine lv_aload_n hx hb dL_law_712 rfl (lv_at hl 2 rfl) ?_
  refine lv_aload_n hx hb dL_law_713 rfl (lv_at hl 3 rfl) ?_
  refine lv_iload_n hx hb dL_law_714 rfl (lv_at hl 0 rfl) ?_
  refine lv_iconst (v := (1 : Int32)) hx hb dL_law_715 (by decide) ?_
  refine lv_iadd hx hb dL_law_716 ?_
  refine va_sld hx hb hX hbl hbA hS h1 dL_law_717 ?_
  replace hP := P_perm hP pw_0_1_4_6_7
  replace hD := D_perm hD pw_0_1_4_6_7
  refine cl_w (wr := cTold Y (v 2) tD ++ cText Y (v 3) xT ++ cRow Y (v 4 3) 8 fN ++ cStand Y (v 6) (v 1 0) (v 6 3) gK ++ cStand Y (v 7) (v 1 0) (v 7 3) gL ++ cSearch Y (v 8) (v 5 0) zZ lZ ++ cRow Y (v 9 0) 8 fW ++ cLong Y (v 9 1) 501 lP ++ cMod Y u mM tk) (va_runV (As := [.int (xs (x + 1).toNatClampNeg)]) (rest := []) ⟨hx, hb, hml, hown, hts⟩ (ctX4_feuding l D Y (v 0) (v 1) (v 4) (v 5) (v 5 3) (v 2 0) (v 3 0) (v 8 0) (v 9 0) (v 9 1) (v 6 0) (v 7 0) (v 4 3) H.size nS tT gN gA fA (xs (x + 1).toNatClampNeg) r gAz fAz e1) (cwV 1 hts gL_law_X4_feuding rfl rfl rfl (by decide +kernel) ⟨Nat.le_of_ble_eq_true rfl, Nat.le_of_ble_eq_true rfl⟩) (pcW_FV hK hP hD rfl) rfl rfl hl.1 rfl (lv_room (Nat.le_of_ble_eq_true rfl)) dL_law_718 ⟨Nat.le_of_ble_eq_true rfl, Nat.le_of_ble_eq_true rfl⟩) hP hD hS hA rfl (fun H locs hP hD hS => ?_)
  have hP : va_P D vwCl (wX Y v nS tT tD xT gN fN gAz fAz gK gL zZ lZ fW lP ++ cMod Y u mM tk) H := P_perm hP pw_0_1_4_6_7.symm
  have hD : va_D (fun q : Nat => s.heap.size ≤ q) (wX Y v nS tT tD xT gN fN gAz fAz gK gL zZ lZ fW lP ++ cMod Y u mM tk) := D_perm hD pw_0_1_4_6_7.symm
  refine lv_aload_n hx hb dL_law_721 rfl (lv_at hl 1 rfl) ?_
  refine lv_aload_n hx hb dL_law_722 rfl (lv_at hl 3 rfl) ?_
  refine lv_iload_n hx hb dL_law_723 rfl (lv_at hl 0 rfl) ?_
  refine lv_iconst (v := (1 : Int32)) hx hb dL_law_724 (by decide) ?_
  refine lv_iadd hx hb dL_law_725 ?_
  refine va_sld hx hb hX hbl hbA hS h1 dL_law_726 ?_
  replace hP := P_perm hP List.perm_append_comm
  replace hD := D_perm hD List.perm_append_comm
  refine cl_w (wr := wX Y v nS tT tD xT gN fN gAz fAz gK gL zZ lZ fW lP) (va_runV (As := [.int (xs (x + 1).toNatClampNeg)]) (rest := [.int r]) ⟨hx, hb, hml, hown, hts⟩ (ctX5_feuding l D Y u H.size mM tk (xs (x + 1).toNatClampNeg) r mMz e2) (cwV 1 hts gL_law_X5_feuding rfl rfl rfl (by decide +kernel) ⟨Nat.le_of_ble_eq_true rfl, Nat.le_of_ble_eq_true rfl⟩) (pcW_FV hK hP hD rfl) rfl rfl hl.1 rfl (lv_room (Nat.le_of_ble_eq_true rfl)) dL_law_727 ⟨Nat.le_of_ble_eq_true rfl, Nat.le_of_ble_eq_true rfl⟩) hP hD hS hA rfl (fun H locs hP hD hS => ?_)
  refine lv_icmp_eq (tgt := 923) hx hb dL_law_730 (by decide) (fun _ => kk _ _ ⟨nS, tT, tD, xT, gN, fN, gAz, fAz, gK, gL, zZ, lZ, fW, lP, mMz, tk, hI, P_perm hP List.perm_append_comm, D_perm hD List.perm_append_comm, hS⟩) (fun z => absurd rfl z)
set_option maxHeartbeats 4000000 in
set_option maxRecDepth 100000 in
theorem lc_nearest {p : Program} {l : Launch} {e : Env} {s : State} {m : MethodId} {below : List Frame} {meth : Method} {c : Code} {Q : State → Prop} {D : va_G} {Y : Nat → ClassId} {v : Nat → Nat → Nat} {u : Nat → Nat} {adK adV : Nat → Nat} {b L : Nat} {xs : Nat → Int32}
    (S : LwS p s m c b L xs D Y adK adV) {x : Int32} (h1 : vp_in (x + 1) L) (h2 : vp_in (x + 2) L) (h3 : vp_in (x + 3) L) (h4 : vp_in (x + 4) L) {H : Heap} {locs : List Loc} (hW : Wd D Y v u s H locs) {ls : Array Slot} (hl : lv_has ls 4 [(3, .int x), (2, .ref (u 0)), (1, .ref (v 0 0)), (0, .ref b)])
    (kk : ∀ (H1 : Heap) (locs1 : List Loc), Wd D Y v u s H1 locs1 → W p l e room_1 s m #[Value.ref b] below meth c H1 locs1 600000 7302250 Q (F0 m 923 ls [])) : W p l e room_1 s m #[Value.ref b] below meth c H locs 600000 7302250 Q (F0 m 735 ls []) := by
  obtain ⟨hx, hb, hml, hown, hts, hX, hbl, hK, hNf, hNm, hE⟩ := S
  obtain ⟨nS, tT, tD, xT, gN, fN, gA, fA, gK, gL, zZ, lZ, fW, lP, mM, tk, hI, hP, hD, hS⟩ := hW
  have hA : ∀ q : Nat, s.heap.size ≤ q → (fun q : Nat => s.heap.size ≤ q) q := fun _ h => h
  have hbA : ¬ (fun q : Nat => s.heap.size ≤ q) b := Nat.not_le.mpr hbl
  obtain ⟨r, gAz, zZz, lZz, mMz, e1, e2, hI⟩ := v_nearest hI gA zZ lZ (xs (x + 1).toNatClampNeg) (xs (x + 2).toNatClampNeg) (xs (x + 3).toNatClampNeg)
  refine lv_aload_n hx hb dL_law_735 rfl (lv_at hl 2 rfl) ?_
  refine lv_aload_n hx hb dL_law_736 rfl (lv_at hl 3 rfl) ?_
  refine lv_iload_n hx hb dL_law_737 rfl (lv_at hl 0 rfl) ?_
  refine lv_iconst (v := (1 : Int32)) hx hb dL_law_738 (by decide) ?_
  refine lv_iadd hx hb dL_law_739 ?_
  refine va_sld hx hb hX hbl hbA hS h1 dL_law_740 ?_
  refine lv_aload_n hx hb dL_law_741 rfl (lv_at hl 3 rfl) ?_
  refine lv_iload_n hx hb dL_law_742 rfl (lv_at hl 0 rfl) ?_
  refine lv_iconst (v := (2 : Int32)) hx hb dL_law_743 (by decide) ?_
  refine lv_iadd hx hb dL_law_744 ?_
  refine va_sld hx hb hX hbl hbA hS h2 dL_law_745 ?_
  refine lv_aload_n hx hb dL_law_746 rfl (lv_at hl 3 rfl) ?_
  refine lv_iload_n hx hb dL_law_747 rfl (lv_at hl 0 rfl) ?_
  refine lv_iconst (v := (3 : Int32)) hx hb dL_law_748 (by decide) ?_
  refine lv_iadd hx hb dL_law_749 ?_
  refine va_sld hx hb hX hbl hbA hS h3 dL_law_750 ?_
  replace hP := P_perm hP pw_0_1_4_6_10
  replace hD := D_perm hD pw_0_1_4_6_10
  refine cl_w (wr := cTold Y (v 2) tD ++ cText Y (v 3) xT ++ cRow Y (v 4 3) 8 fN ++ cRow Y (v 5 3) 8 fA ++ cStand Y (v 6) (v 1 0) (v 6 3) gK ++ cStand Y (v 7) (v 1 0) (v 7 3) gL ++ cRow Y (v 9 0) 8 fW ++ cLong Y (v 9 1) 501 lP ++ cMod Y u mM tk) (va_runV (As := [.int (xs (x + 1).toNatClampNeg), .int (xs (x + 2).toNatClampNeg), .int (xs (x + 3).toNatClampNeg)]) (rest := []) ⟨hx, hb, hml, hown, hts⟩ (ctX4_nearest l D Y (v 0) (v 1) (v 4) (v 5) (v 8) (v 2 0) (v 3 0) (v 9 0) (v 9 1) (v 6 0) (v 7 0) (v 4 3) (v 5 3) H.size nS tT gN gA zZ lZ (xs (x + 1).toNatClampNeg) (xs (x + 2).toNatClampNeg) (xs (x + 3).toNatClampNeg) r gAz zZz lZz e1) (cwV 3 hts gL_law_X4_nearest rfl rfl rfl (by decide +kernel) ⟨Nat.le_of_ble_eq_true rfl, Nat.le_of_ble_eq_true rfl⟩) (pcM_V hNf hNm (pcW_FV hK hP hD rfl)) rfl rfl hl.1 rfl (lv_room (Nat.le_of_ble_eq_true rfl)) dL_law_751 ⟨Nat.le_of_ble_eq_true rfl, Nat.le_of_ble_eq_true rfl⟩) hP hD hS hA rfl (fun H locs hP hD hS => ?_)
  have hP : va_P D vwCl (wX Y v nS tT tD xT gN fN gAz fA gK gL zZz lZz fW lP ++ cMod Y u mM tk) H := P_perm hP pw_0_1_4_6_10.symm
  have hD : va_D (fun q : Nat => s.heap.size ≤ q) (wX Y v nS tT tD xT gN fN gAz fA gK gL zZz lZz fW lP ++ cMod Y u mM tk) := D_perm hD pw_0_1_4_6_10.symm
  refine lv_aload_n hx hb dL_law_754 rfl (lv_at hl 1 rfl) ?_
  refine lv_aload_n hx hb dL_law_755 rfl (lv_at hl 3 rfl) ?_
  refine lv_iload_n hx hb dL_law_756 rfl (lv_at hl 0 rfl) ?_
  refine lv_iconst (v := (1 : Int32)) hx hb dL_law_757 (by decide) ?_
  refine lv_iadd hx hb dL_law_758 ?_
  refine va_sld hx hb hX hbl hbA hS h1 dL_law_759 ?_
  refine lv_aload_n hx hb dL_law_760 rfl (lv_at hl 3 rfl) ?_
  refine lv_iload_n hx hb dL_law_761 rfl (lv_at hl 0 rfl) ?_
  refine lv_iconst (v := (2 : Int32)) hx hb dL_law_762 (by decide) ?_
  refine lv_iadd hx hb dL_law_763 ?_
  refine va_sld hx hb hX hbl hbA hS h2 dL_law_764 ?_
  refine lv_aload_n hx hb dL_law_765 rfl (lv_at hl 3 rfl) ?_
  refine lv_iload_n hx hb dL_law_766 rfl (lv_at hl 0 rfl) ?_
  refine lv_iconst (v := (3 : Int32)) hx hb dL_law_767 (by decide) ?_
  refine lv_iadd hx hb dL_law_768 ?_
  refine va_sld hx hb hX hbl hbA hS h3 dL_law_769 ?_
  replace hP := P_perm hP List.perm_append_comm
  replace hD := D_perm hD List.perm_append_comm
  refine cl_w (wr := wX Y v nS tT tD xT gN fN gAz fA gK gL zZz lZz fW lP) (va_runV (As := [.int (xs (x + 1).toNatClampNeg), .int (xs (x + 2).toNatClampNeg), .int (xs (x + 3).toNatClampNeg)]) (rest := [.int r]) ⟨hx, hb, hml, hown, hts⟩ (ctX5_nearest l D Y u H.size mM tk (xs (x + 1).toNatClampNeg) (xs (x + 2).toNatClampNeg) (xs (x + 3).toNatClampNeg) r mMz e2) (cwV 3 hts gL_law_X5_nearest rfl rfl rfl (by decide +kernel) ⟨Nat.le_of_ble_eq_true rfl, Nat.le_of_ble_eq_true rfl⟩) (pcW_FV hK hP hD rfl) rfl rfl hl.1 rfl (lv_room (Nat.le_of_ble_eq_true rfl)) dL_law_770 ⟨Nat.le_of_ble_eq_true rfl, Nat.le_of_ble_eq_true rfl⟩) hP hD hS hA rfl (fun H locs hP hD hS => ?_)
  refine lv_icmp_eq (tgt := 923) hx hb dL_law_773 (by decide) (fun _ => kk _ _ ⟨nS, tT, tD, xT, gN, fN, gAz, fA, gK, gL, zZz, lZz, fW, lP, mMz, tk, hI, P_perm hP List.perm_append_comm, D_perm hD List.perm_append_comm, hS⟩) (fun z => absurd rfl z)
