/-! the law's cases 10 .. 14 -/
set_option maxHeartbeats 4000000 in
set_option maxRecDepth 100000 in
theorem lc_keep {p : Program} {l : Launch} {e : Env} {s : State} {m : MethodId} {below : List Frame} {meth : Method} {c : Code} {Q : State → Prop} {D : va_G} {Y : Nat → ClassId} {v : Nat → Nat → Nat} {u : Nat → Nat} {adK adV : Nat → Nat} {b L : Nat} {xs : Nat → Int32}
    (S : LwS p s m c b L xs D Y adK adV) {x : Int32} (h1 : vp_in (x + 1) L) (h2 : vp_in (x + 2) L) (h3 : vp_in (x + 3) L) (h4 : vp_in (x + 4) L) {H : Heap} {locs : List Loc} (hW : Wd D Y v u s H locs) {ls : Array Slot} (hl : lv_has ls 4 [(3, .int x), (2, .ref (u 0)), (1, .ref (v 0 0)), (0, .ref b)])
    (kk : ∀ (H1 : Heap) (locs1 : List Loc), Wd D Y v u s H1 locs1 → W p l e room_1 s m #[Value.ref b] below meth c H1 locs1 600000 7302250 Q (F0 m 923 ls [])) : W p l e room_1 s m #[Value.ref b] below meth c H locs 600000 7302250 Q (F0 m 438 ls []) := by
  obtain ⟨hx, hb, hml, hown, hts, hX, hbl, hK, hNf, hNm, hE⟩ := S
  obtain ⟨nS, tT, tD, xT, gN, fN, gA, fA, gK, gL, zZ, lZ, fW, lP, mM, tk, hI, hP, hD, hS⟩ := hW
  have hA : ∀ q : Nat, s.heap.size ≤ q → (fun q : Nat => s.heap.size ≤ q) q := fun _ h => h
  have hbA : ¬ (fun q : Nat => s.heap.size ≤ q) b := Nat.not_le.mpr hbl
  obtain ⟨r, nSz, gKz, gLz, mMz, e1, e2, hI⟩ := v_keep hI (xs (x + 1).toNatClampNeg)
  refine lv_aload_n hx hb dL_law_438 rfl (lv_at hl 2 rfl) ?_
  refine lv_aload_n hx hb dL_law_439 rfl (lv_at hl 3 rfl) ?_
  refine lv_iload_n hx hb dL_law_440 rfl (lv_at hl 0 rfl) ?_
  refine lv_iconst (v := (1 : Int32)) hx hb dL_law_441 (by decide) ?_
  refine lv_iadd hx hb dL_law_442 ?_
  refine va_sld hx hb hX hbl hbA hS h1 dL_law_443 ?_
  replace hP := P_perm hP pw_0_4_8_9
  replace hD := D_perm hD pw_0_4_8_9
  refine cl_w (wr := cTold Y (v 1) tT ++ cTold Y (v 2) tD ++ cText Y (v 3) xT ++ cRow Y (v 4 3) 8 fN ++ cStand Y (v 5) (v 1 0) (v 5 3) gA ++ cRow Y (v 5 3) 8 fA ++ cSearch Y (v 8) (v 5 0) zZ lZ ++ cRow Y (v 9 0) 8 fW ++ cLong Y (v 9 1) 501 lP ++ cMod Y u mM tk) (va_runV (As := [.int (xs (x + 1).toNatClampNeg)]) (rest := []) ⟨hx, hb, hml, hown, hts⟩ (ctX4_keep l D Y (v 0) (v 4) (v 6) (v 7) (v 1 0) (v 2 0) (v 3 0) (v 5 0) (v 8 0) (v 9 0) (v 9 1) (v 4 3) (v 6 3) (v 7 3) H.size nS gN gK gL (xs (x + 1).toNatClampNeg) r nSz gKz gLz e1) (cwV 1 hts gL_law_X4_keep rfl rfl rfl (by decide +kernel) ⟨Nat.le_of_ble_eq_true rfl, Nat.le_of_ble_eq_true rfl⟩) (pcW_FV hK hP hD rfl) rfl rfl hl.1 rfl (lv_room (Nat.le_of_ble_eq_true rfl)) dL_law_444 ⟨Nat.le_of_ble_eq_true rfl, Nat.le_of_ble_eq_true rfl⟩) hP hD hS hA rfl (fun H locs hP hD hS => ?_)
  have hP : va_P D vwCl (wX Y v nSz tT tD xT gN fN gA fA gKz gLz zZ lZ fW lP ++ cMod Y u mM tk) H := P_perm hP pw_0_4_8_9.symm
  have hD : va_D (fun q : Nat => s.heap.size ≤ q) (wX Y v nSz tT tD xT gN fN gA fA gKz gLz zZ lZ fW lP ++ cMod Y u mM tk) := D_perm hD pw_0_4_8_9.symm
  refine lv_aload_n hx hb dL_law_447 rfl (lv_at hl 1 rfl) ?_
  refine lv_aload_n hx hb dL_law_448 rfl (lv_at hl 3 rfl) ?_
  refine lv_iload_n hx hb dL_law_449 rfl (lv_at hl 0 rfl) ?_
  refine lv_iconst (v := (1 : Int32)) hx hb dL_law_450 (by decide) ?_
  refine lv_iadd hx hb dL_law_451 ?_
  refine va_sld hx hb hX hbl hbA hS h1 dL_law_452 ?_
  replace hP := P_perm hP List.perm_append_comm
  replace hD := D_perm hD List.perm_append_comm
  refine cl_w (wr := wX Y v nSz tT tD xT gN fN gA fA gKz gLz zZ lZ fW lP) (va_runV (As := [.int (xs (x + 1).toNatClampNeg)]) (rest := [.int r]) ⟨hx, hb, hml, hown, hts⟩ (ctX5_keep l D Y u H.size mM tk (xs (x + 1).toNatClampNeg) r mMz e2) (cwV 1 hts gL_law_X5_keep rfl rfl rfl (by decide +kernel) ⟨Nat.le_of_ble_eq_true rfl, Nat.le_of_ble_eq_true rfl⟩) (pcW_FV hK hP hD rfl) rfl rfl hl.1 rfl (lv_room (Nat.le_of_ble_eq_true rfl)) dL_law_453 ⟨Nat.le_of_ble_eq_true rfl, Nat.le_of_ble_eq_true rfl⟩) hP hD hS hA rfl (fun H locs hP hD hS => ?_)
  refine lv_icmp_eq (tgt := 923) hx hb dL_law_456 (by decide) (fun _ => kk _ _ ⟨nSz, tT, tD, xT, gN, fN, gA, fA, gKz, gLz, zZ, lZ, fW, lP, mMz, tk, hI, P_perm hP List.perm_append_comm, D_perm hD List.perm_append_comm, hS⟩) (fun z => absurd rfl z)
set_option maxHeartbeats 4000000 in
set_option maxRecDepth 100000 in
theorem lc_back {p : Program} {l : Launch} {e : Env} {s : State} {m : MethodId} {below : List Frame} {meth : Method} {c : Code} {Q : State → Prop} {D : va_G} {Y : Nat → ClassId} {v : Nat → Nat → Nat} {u : Nat → Nat} {adK adV : Nat → Nat} {b L : Nat} {xs : Nat → Int32}
    (S : LwS p s m c b L xs D Y adK adV) {x : Int32} (h1 : vp_in (x + 1) L) (h2 : vp_in (x + 2) L) (h3 : vp_in (x + 3) L) (h4 : vp_in (x + 4) L) {H : Heap} {locs : List Loc} (hW : Wd D Y v u s H locs) {ls : Array Slot} (hl : lv_has ls 4 [(3, .int x), (2, .ref (u 0)), (1, .ref (v 0 0)), (0, .ref b)])
    (kk : ∀ (H1 : Heap) (locs1 : List Loc), Wd D Y v u s H1 locs1 → W p l e room_1 s m #[Value.ref b] below meth c H1 locs1 600000 7302250 Q (F0 m 923 ls [])) : W p l e room_1 s m #[Value.ref b] below meth c H locs 600000 7302250 Q (F0 m 461 ls []) := by
  obtain ⟨hx, hb, hml, hown, hts, hX, hbl, hK, hNf, hNm, hE⟩ := S
  obtain ⟨nS, tT, tD, xT, gN, fN, gA, fA, gK, gL, zZ, lZ, fW, lP, mM, tk, hI, hP, hD, hS⟩ := hW
  have hA : ∀ q : Nat, s.heap.size ≤ q → (fun q : Nat => s.heap.size ≤ q) q := fun _ h => h
  have hbA : ¬ (fun q : Nat => s.heap.size ≤ q) b := Nat.not_le.mpr hbl
  obtain ⟨r, gNz, mMz, e1, e2, hI⟩ := v_back hI (xs (x + 1).toNatClampNeg)
  refine lv_aload_n hx hb dL_law_461 rfl (lv_at hl 2 rfl) ?_
  refine lv_aload_n hx hb dL_law_462 rfl (lv_at hl 3 rfl) ?_
  refine lv_iload_n hx hb dL_law_463 rfl (lv_at hl 0 rfl) ?_
  refine lv_iconst (v := (1 : Int32)) hx hb dL_law_464 (by decide) ?_
  refine lv_iadd hx hb dL_law_465 ?_
  refine va_sld hx hb hX hbl hbA hS h1 dL_law_466 ?_
  replace hP := P_perm hP pw_0_4_8_9
  replace hD := D_perm hD pw_0_4_8_9
  refine cl_w (wr := cTold Y (v 1) tT ++ cTold Y (v 2) tD ++ cText Y (v 3) xT ++ cRow Y (v 4 3) 8 fN ++ cStand Y (v 5) (v 1 0) (v 5 3) gA ++ cRow Y (v 5 3) 8 fA ++ cSearch Y (v 8) (v 5 0) zZ lZ ++ cRow Y (v 9 0) 8 fW ++ cLong Y (v 9 1) 501 lP ++ cMod Y u mM tk) (va_runV (As := [.int (xs (x + 1).toNatClampNeg)]) (rest := []) ⟨hx, hb, hml, hown, hts⟩ (ctX4_back l D Y (v 0) (v 4) (v 6) (v 7) (v 1 0) (v 2 0) (v 3 0) (v 5 0) (v 8 0) (v 9 0) (v 9 1) (v 4 3) (v 6 3) (v 7 3) H.size nS gN gK gL (xs (x + 1).toNatClampNeg) r gNz e1) (cwV 1 hts gL_law_X4_back rfl rfl rfl (by decide +kernel) ⟨Nat.le_of_ble_eq_true rfl, Nat.le_of_ble_eq_true rfl⟩) (pcW_FV hK hP hD rfl) rfl rfl hl.1 rfl (lv_room (Nat.le_of_ble_eq_true rfl)) dL_law_467 ⟨Nat.le_of_ble_eq_true rfl, Nat.le_of_ble_eq_true rfl⟩) hP hD hS hA rfl (fun H locs hP hD hS => ?_)
  have hP : va_P D vwCl (wX Y v nS tT tD xT gNz fN gA fA gK gL zZ lZ fW lP ++ cMod Y u mM tk) H := P_perm hP pw_0_4_8_9.symm
  have hD : va_D (fun q : Nat => s.heap.size ≤ q) (wX Y v nS tT tD xT gNz fN gA fA gK gL zZ lZ fW lP ++ cMod Y u mM tk) := D_perm hD pw_0_4_8_9.symm
  refine lv_aload_n hx hb dL_law_470 rfl (lv_at hl 1 rfl) ?_
  refine lv_aload_n hx hb dL_law_471 rfl (lv_at hl 3 rfl) ?_
  refine lv_iload_n hx hb dL_law_472 rfl (lv_at hl 0 rfl) ?_
  refine lv_iconst (v := (1 : Int32)) hx hb dL_law_473 (by decide) ?_
  refine lv_iadd hx hb dL_law_474 ?_
  refine va_sld hx hb hX hbl hbA hS h1 dL_law_475 ?_
  replace hP := P_perm hP List.perm_append_comm
  replace hD := D_perm hD List.perm_append_comm
  refine cl_w (wr := wX Y v nS tT tD xT gNz fN gA fA gK gL zZ lZ fW lP) (va_runV (As := [.int (xs (x + 1).toNatClampNeg)]) (rest := [.int r]) ⟨hx, hb, hml, hown, hts⟩ (ctX5_back l D Y u H.size mM tk (xs (x + 1).toNatClampNeg) r mMz e2) (cwV 1 hts gL_law_X5_back rfl rfl rfl (by decide +kernel) ⟨Nat.le_of_ble_eq_true rfl, Nat.le_of_ble_eq_true rfl⟩) (pcW_FV hK hP hD rfl) rfl rfl hl.1 rfl (lv_room (Nat.le_of_ble_eq_true rfl)) dL_law_476 ⟨Nat.le_of_ble_eq_true rfl, Nat.le_of_ble_eq_true rfl⟩) hP hD hS hA rfl (fun H locs hP hD hS => ?_)
  refine lv_icmp_eq (tgt := 923) hx hb dL_law_479 (by decide) (fun _ => kk _ _ ⟨nS, tT, tD, xT, gNz, fN, gA, fA, gK, gL, zZ, lZ, fW, lP, mMz, tk, hI, P_perm hP List.perm_append_comm, D_perm hD List.perm_append_comm, hS⟩) (fun z => absurd rfl z)
set_option maxHeartbeats 4000000 in
set_option maxRecDepth 100000 in
theorem lc_later {p : Program} {l : Launch} {e : Env} {s : State} {m : MethodId} {below : List Frame} {meth : Method} {c : Code} {Q : State → Prop} {D : va_G} {Y : Nat → ClassId} {v : Nat → Nat → Nat} {u : Nat → Nat} {adK adV : Nat → Nat} {b L : Nat} {xs : Nat → Int32}
    (S : LwS p s m c b L xs D Y adK adV) {x : Int32} (h1 : vp_in (x + 1) L) (h2 : vp_in (x + 2) L) (h3 : vp_in (x + 3) L) (h4 : vp_in (x + 4) L) {H : Heap} {locs : List Loc} (hW : Wd D Y v u s H locs) {ls : Array Slot} (hl : lv_has ls 4 [(3, .int x), (2, .ref (u 0)), (1, .ref (v 0 0)), (0, .ref b)])
    (kk : ∀ (H1 : Heap) (locs1 : List Loc), Wd D Y v u s H1 locs1 → W p l e room_1 s m #[Value.ref b] below meth c H1 locs1 600000 7302250 Q (F0 m 923 ls [])) : W p l e room_1 s m #[Value.ref b] below meth c H locs 600000 7302250 Q (F0 m 484 ls []) := by
  obtain ⟨hx, hb, hml, hown, hts, hX, hbl, hK, hNf, hNm, hE⟩ := S
  obtain ⟨nS, tT, tD, xT, gN, fN, gA, fA, gK, gL, zZ, lZ, fW, lP, mM, tk, hI, hP, hD, hS⟩ := hW
  have hA : ∀ q : Nat, s.heap.size ≤ q → (fun q : Nat => s.heap.size ≤ q) q := fun _ h => h
  have hbA : ¬ (fun q : Nat => s.heap.size ≤ q) b := Nat.not_le.mpr hbl
  obtain ⟨r, gAz, fAz, mMz, e1, e2, hI⟩ := v_later hI gA fA (xs (x + 1).toNatClampNeg) (xs (x + 2).toNatClampNeg)
  refine lv_aload_n hx hb dL_law_484 rfl (lv_at hl 2 rfl) ?_
  refine lv_aload_n hx hb dL_law_485 rfl (lv_at hl 3 rfl) ?_
  refine lv_iload_n hx hb dL_law_486 rfl (lv_at hl 0 rfl) ?_
  refine lv_iconst (v := (1 : Int32)) hx hb dL_law_487 (by decide) ?_
  refine lv_iadd hx hb dL_law_488 ?_
  refine va_sld hx hb hX hbl hbA hS h1 dL_law_489 ?_
  refine lv_aload_n hx hb dL_law_490 rfl (lv_at hl 3 rfl) ?_
  refine lv_iload_n hx hb dL_law_491 rfl (lv_at hl 0 rfl) ?_
  refine lv_iconst (v := (2 : Int32)) hx hb dL_law_492 (by decide) ?_
  refine lv_iadd hx hb dL_law_493 ?_
  refine va_sld hx hb hX hbl hbA hS h2 dL_law_494 ?_
  replace hP := P_perm hP pw_0_1_4_6_7
  replace hD := D_perm hD pw_0_1_4_6_7
  refine cl_w (wr := cTold Y (v 2) tD ++ cText Y (v 3) xT ++ cRow Y (v 4 3) 8 fN ++ cStand Y (v 6) (v 1 0) (v 6 3) gK ++ cStand Y (v 7) (v 1 0) (v 7 3) gL ++ cSearch Y (v 8) (v 5 0) zZ lZ ++ cRow Y (v 9 0) 8 fW ++ cLong Y (v 9 1) 501 lP ++ cMod Y u mM tk) (va_runV (As := [.int (xs (x + 1).toNatClampNeg), .int (xs (x + 2).toNatClampNeg)]) (rest := []) ⟨hx, hb, hml, hown, hts⟩ (ctX4_later l D Y (v 0) (v 1) (v 4) (v 5) (v 5 3) (v 2 0) (v 3 0) (v 8 0) (v 9 0) (v 9 1) (v 6 0) (v 7 0) (v 4 3) H.size nS tT gN gA fA (xs (x + 1).toNatClampNeg) (xs (x + 2).toNatClampNeg) r gAz fAz e1) (cwV 2 hts gL_law_X4_later rfl rfl rfl (by decide +kernel) ⟨Nat.le_of_ble_eq_true rfl, Nat.le_of_ble_eq_true rfl⟩) (pcW_FV hK hP hD rfl) rfl rfl hl.1 rfl (lv_room (Nat.le_of_ble_eq_true rfl)) dL_law_495 ⟨Nat.le_of_ble_eq_true rfl, Nat.le_of_ble_eq_true rfl⟩) hP hD hS hA rfl (fun H locs hP hD hS => ?_)
  have hP : va_P D vwCl (wX Y v nS tT tD xT gN fN gAz fAz gK gL zZ lZ fW lP ++ cMod Y u mM tk) H := P_perm hP pw_0_1_4_6_7.symm
  have hD : va_D (fun q : Nat => s.heap.size ≤ q) (wX Y v nS tT tD xT gN fN gAz fAz gK gL zZ lZ fW lP ++ cMod Y u mM tk) := D_perm hD pw_0_1_4_6_7.symm
  refine lv_aload_n hx hb dL_law_498 rfl (lv_at hl 1 rfl) ?_
  refine lv_aload_n hx hb dL_law_499 rfl (lv_at hl 3 rfl) ?_
  refine lv_iload_n hx hb dL_law_500 rfl (lv_at hl 0 rfl) ?_
  refine lv_iconst (v := (1 : Int32)) hx hb dL_law_501 (by decide) ?_
  refine lv_iadd hx hb dL_law_502 ?_
  refine va_sld hx hb hX hbl hbA hS h1 dL_law_503 ?_
  refine lv_aload_n hx hb dL_law_504 rfl (lv_at hl 3 rfl) ?_
  refine lv_iload_n hx hb dL_law_505 rfl (lv_at hl 0 rfl) ?_
  refine lv_iconst (v := (2 : Int32)) hx hb dL_law_506 (by decide) ?_
  refine lv_iadd hx hb dL_law_507 ?_
  refine va_sld hx hb hX hbl hbA hS h2 dL_law_508 ?_
  replace hP := P_perm hP List.perm_append_comm
  replace hD := D_perm hD List.perm_append_comm
  refine cl_w (wr := wX Y v nS tT tD xT gN fN gAz fAz gK gL zZ lZ fW lP) (va_runV (As := [.int (xs (x + 1).toNatClampNeg), .int (xs (x + 2).toNatClampNeg)]) (rest := [.int r]) ⟨hx, hb, hml, hown, hts⟩ (ctX5_later l D Y u H.size mM tk (xs (x + 1).toNatClampNeg) (xs (x + 2).toNatClampNeg) r mMz e2) (cwV 2 hts gL_law_X5_later rfl rfl rfl (by decide +kernel) ⟨Nat.le_of_ble_eq_true rfl, Nat.le_of_ble_eq_true rfl⟩) (pcW_FV hK hP hD rfl) rfl rfl hl.1 rfl (lv_room (Nat.le_of_ble_eq_true rfl)) dL_law_509 ⟨Nat.le_of_ble_eq_true rfl, Nat.le_of_ble_eq_true rfl⟩) hP hD hS hA rfl (fun H locs hP hD hS => ?_)
  refine lv_icmp_eq (tgt := 923) hx hb dL_law_512 (by decide) (fun _ => kk _ _ ⟨nS, tT, tD, xT, gN, fN, gAz, fAz, gK, gL, zZ, lZ, fW, lP, mMz, tk, hI, P_perm hP List.perm_append_comm, D_perm hD List.perm_append_comm, hS⟩) (fun z => absurd rfl z)
set_option maxHeartbeats 4000000 in
set_option maxRecDepth 100000 in
theorem lc_round {p : Program} {l : Launch} {e : Env} {s : State} {m : MethodId} {below : List Frame} {meth : Method} {c : Code} {Q : State → Prop} {D : va_G} {Y : Nat → ClassId} {v : Nat → Nat → Nat} {u : Nat → Nat} {adK adV : Nat → Nat} {b L : Nat} {xs : Nat → Int32}
    (S : LwS p s m c b L xs D Y adK adV) {x : Int32} (h1 : vp_in (x + 1) L) (h2 : vp_in (x + 2) L) (h3 : vp_in (x + 3) L) (h4 : vp_in (x + 4) L) {H : Heap} {locs : List Loc} (hW : Wd D Y v u s H locs) {ls : Array Slot} (hl : lv_has ls 4 [(3, .int x), (2, .ref (u 0)), (1, .ref (v 0 0)), (0, .ref b)])
    (kk : ∀ (H1 : Heap) (locs1 : List Loc), Wd D Y v u s H1 locs1 → W p l e room_1 s m #[Value.ref b] below meth c H1 locs1 600000 7302250 Q (F0 m 923 ls [])) : W p l e room_1 s m #[Value.ref b] below meth c H locs 600000 7302250 Q (F0 m 517 ls []) := by
  obtain ⟨hx, hb, hml, hown, hts, hX, hbl, hK, hNf, hNm, hE⟩ := S
  obtain ⟨nS, tT, tD, xT, gN, fN, gA, fA, gK, gL, zZ, lZ, fW, lP, mM, tk, hI, hP, hD, hS⟩ := hW
  have hA : ∀ q : Nat, s.heap.size ≤ q → (fun q : Nat => s.heap.size ≤ q) q := fun _ h => h
  have hbA : ¬ (fun q : Nat => s.heap.size ≤ q) b := Nat.not_le.mpr hbl
  obtain ⟨r, gAz, fAz, lPz, mMz, e1, e2, hI⟩ := v_round hI gA fA lP (xs (x + 1).toNatClampNeg)
  refine lv_aload_n hx hb dL_law_517 rfl (lv_at hl 2 rfl) ?_
  refine lv_aload_n hx hb dL_law_518 rfl (lv_at hl 3 rfl) ?_
  refine lv_iload_n hx hb dL_law_519 rfl (lv_at hl 0 rfl) ?_
  refine lv_iconst (v := (1 : Int32)) hx hb dL_law_520 (by decide) ?_
  refine lv_iadd hx hb dL_law_521 ?_
  refine va_sld hx hb hX hbl hbA hS h1 dL_law_522 ?_
  replace hP := P_perm hP pw_0_1_4_6_7_12
  replace hD := D_perm hD pw_0_1_4_6_7_12
  refine cl_w (wr := cTold Y (v 2) tD ++ cText Y (v 3) xT ++ cRow Y (v 4 3) 8 fN ++ cStand Y (v 6) (v 1 0) (v 6 3) gK ++ cStand Y (v 7) (v 1 0) (v 7 3) gL ++ cSearch Y (v 8) (v 5 0) zZ lZ ++ cRow Y (v 9 0) 8 fW ++ cMod Y u mM tk) (va_runV (As := [.int (xs (x + 1).toNatClampNeg)]) (rest := []) ⟨hx, hb, hml, hown, hts⟩ (ctX4_round l D Y (v 0) (v 1) (v 4) (v 5) (v 5 3) (v 9 1) (v 2 0) (v 3 0) (v 8 0) (v 9 0) (v 6 0) (v 7 0) (v 4 3) H.size nS tT gN gA fA lP (xs (x + 1).toNatClampNeg) r gAz fAz lPz e1) (cwV 1 hts gL_law_X4_round rfl rfl rfl (by decide +kernel) ⟨Nat.le_of_ble_eq_true rfl, Nat.le_of_ble_eq_true rfl⟩) (pcW_FV hK hP hD rfl) rfl rfl hl.1 rfl (lv_room (Nat.le_of_ble_eq_true rfl)) dL_law_523 ⟨Nat.le_of_ble_eq_true rfl, Nat.le_of_ble_eq_true rfl⟩) hP hD hS hA rfl (fun H locs hP hD hS => ?_)
  have hP : va_P D vwCl (wX Y v nS tT tD xT gN fN gAz fAz gK gL zZ lZ fW lPz ++ cMod Y u mM tk) H := P_perm hP pw_0_1_4_6_7_12.symm
  have hD : va_D (fun q : Nat => s.heap.size ≤ q) (wX Y v nS tT tD xT gN fN gAz fAz gK gL zZ lZ fW lPz ++ cMod Y u mM tk) := D_perm hD pw_0_1_4_6_7_12.symm
  refine lv_aload_n hx hb dL_law_526 rfl (lv_at hl 1 rfl) ?_
  refine lv_aload_n hx hb dL_law_527 rfl (lv_at hl 3 rfl) ?_
  refine lv_iload_n hx hb dL_law_528 rfl (lv_at hl 0 rfl) ?_
  refine lv_iconst (v := (1 : Int32)) hx hb dL_law_529 (by decide) ?_
  refine lv_iadd hx hb dL_law_530 ?_
  refine va_sld hx hb hX hbl hbA hS h1 dL_law_531 ?_
  replace hP := P_perm hP List.perm_append_comm
  replace hD := D_perm hD List.perm_append_comm
  refine cl_w (wr := wX Y v nS tT tD xT gN fN gAz fAz gK gL zZ lZ fW lPz) (va_runV (As := [.int (xs (x + 1).toNatClampNeg)]) (rest := [.int r]) ⟨hx, hb, hml, hown, hts⟩ (ctX5_round l D Y u H.size mM tk (xs (x + 1).toNatClampNeg) r mMz e2) (cwV 1 hts gL_law_X5_round rfl rfl rfl (by decide +kernel) ⟨Nat.le_of_ble_eq_true rfl, Nat.le_of_ble_eq_true rfl⟩) (pcW_FV hK hP hD rfl) rfl rfl hl.1 rfl (lv_room (Nat.le_of_ble_eq_true rfl)) dL_law_532 ⟨Nat.le_of_ble_eq_true rfl, Nat.le_of_ble_eq_true rfl⟩) hP hD hS hA rfl (fun H locs hP hD hS => ?_)
  refine lv_icmp_eq (tgt := 923) hx hb dL_law_535 (by decide) (fun _ => kk _ _ ⟨nS, tT, tD, xT, gN, fN, gAz, fAz, gK, gL, zZ, lZ, fW, lPz, mMz, tk, hI, P_perm hP List.perm_append_comm, D_perm hD List.perm_append_comm, hS⟩) (fun z => absurd rfl z)
set_option maxHeartbeats 4000000 in
set_option maxRecDepth 100000 in
theorem lc_touch {p : Program} {l : Launch} {e : Env} {s : State} {m : MethodId} {below : List Frame} {meth : Method} {c : Code} {Q : State → Prop} {D : va_G} {Y : Nat → ClassId} {v : Nat → Nat → Nat} {u : Nat → Nat} {adK adV : Nat → Nat} {b L : Nat} {xs : Nat → Int32}
    (S : LwS p s m c b L xs D Y adK adV) {x : Int32} (h1 : vp_in (x + 1) L) (h2 : vp_in (x + 2) L) (h3 : vp_in (x + 3) L) (h4 : vp_in (x + 4) L) {H : Heap} {locs : List Loc} (hW : Wd D Y v u s H locs) {ls : Array Slot} (hl : lv_has ls 4 [(3, .int x), (2, .ref (u 0)), (1, .ref (v 0 0)), (0, .ref b)])
    (kk : ∀ (H1 : Heap) (locs1 : List Loc), Wd D Y v u s H1 locs1 → W p l e room_1 s m #[Value.ref b] below meth c H1 locs1 600000 7302250 Q (F0 m 923 ls [])) : W p l e room_1 s m #[Value.ref b] below meth c H locs 600000 7302250 Q (F0 m 540 ls []) := by
  obtain ⟨hx, hb, hml, hown, hts, hX, hbl, hK, hNf, hNm, hE⟩ := S
  obtain ⟨nS, tT, tD, xT, gN, fN, gA, fA, gK, gL, zZ, lZ, fW, lP, mM, tk, hI, hP, hD, hS⟩ := hW
  have hA : ∀ q : Nat, s.heap.size ≤ q → (fun q : Nat => s.heap.size ≤ q) q := fun _ h => h
  have hbA : ¬ (fun q : Nat => s.heap.size ≤ q) b := Nat.not_le.mpr hbl
  obtain ⟨r, e1, e2⟩ := v_touch hI (xs (x + 1).toNatClampNeg) (xs (x + 2).toNatClampNeg) (xs (x + 3).toNatClampNeg)
  refine lv_aload_n hx hb dL_law_540 rfl (lv_at hl 2 rfl) ?_
  refine lv_aload_n hx hb dL_law_541 rfl (lv_at hl 3 rfl) ?_
  refine lv_iload_n hx hb dL_law_542 rfl (lv_at hl 0 rfl) ?_
  refine lv_iconst (v := (1 : Int32)) hx hb dL_law_543 (by decide) ?_
  refine lv_iadd hx hb dL_law_544 ?_
  refine va_sld hx hb hX hbl hbA hS h1 dL_law_545 ?_
  refine lv_aload_n hx hb dL_law_546 rfl (lv_at hl 3 rfl) ?_
  refine lv_iload_n hx hb dL_law_547 rfl (lv_at hl 0 rfl) ?_
  refine lv_iconst (v := (2 : Int32)) hx hb dL_law_548 (by decide) ?_
  refine lv_iadd hx hb dL_law_549 ?_
  refine va_sld hx hb hX hbl hbA hS h2 dL_law_550 ?_
  refine lv_aload_n hx hb dL_law_551 rfl (lv_at hl 3 rfl) ?_
  refine lv_iload_n hx hb dL_law_552 rfl (lv_at hl 0 rfl) ?_
  refine lv_iconst (v := (3 : Int32)) hx hb dL_law_553 (by decide) ?_
  refine lv_iadd hx hb dL_law_554 ?_
  refine va_sld hx hb hX hbl hbA hS h3 dL_law_555 ?_
  replace hP := P_perm hP pw_0_1_4
  replace hD := D_perm hD pw_0_1_4
  refine cl_w (wr := cTold Y (v 2) tD ++ cText Y (v 3) xT ++ cRow Y (v 4 3) 8 fN ++ cStand Y (v 5) (v 1 0) (v 5 3) gA ++ cRow Y (v 5 3) 8 fA ++ cStand Y (v 6) (v 1 0) (v 6 3) gK ++ cStand Y (v 7) (v 1 0) (v 7 3) gL ++ cSearch Y (v 8) (v 5 0) zZ lZ ++ cRow Y (v 9 0) 8 fW ++ cLong Y (v 9 1) 501 lP ++ cMod Y u mM tk) (va_runV (As := [.int (xs (x + 1).toNatClampNeg), .int (xs (x + 2).toNatClampNeg), .int (xs (x + 3).toNatClampNeg)]) (rest := []) ⟨hx, hb, hml, hown, hts⟩ (ctX4_touch l D Y (v 0) (v 1) (v 4) (v 2 0) (v 3 0) (v 5 0) (v 8 0) (v 9 0) (v 9 1) (v 6 0) (v 7 0) (v 4 3) H.size nS tT gN (xs (x + 1).toNatClampNeg) (xs (x + 2).toNatClampNeg) (xs (x + 3).toNatClampNeg) r e1) (cwV 3 hts gL_law_X4_touch rfl rfl rfl (by decide +kernel) ⟨Nat.le_of_ble_eq_true rfl, Nat.le_of_ble_eq_true rfl⟩) (pcW_FV hK hP hD rfl) rfl rfl hl.1 rfl (lv_room (Nat.le_of_ble_eq_true rfl)) dL_law_556 ⟨Nat.le_of_ble_eq_true rfl, Nat.le_of_ble_eq_true rfl⟩) hP hD hS hA rfl (fun H locs hP hD hS => ?_)
  have hP : va_P D vwCl (wX Y v nS tT tD xT gN fN gA fA gK gL zZ lZ fW lP ++ cMod Y u mM tk) H := P_perm hP pw_0_1_4.symm
  have hD : va_D (fun q : Nat => s.heap.size ≤ q) (wX Y v nS tT tD xT gN fN gA fA gK gL zZ lZ fW lP ++ cMod Y u mM tk) := D_perm hD pw_0_1_4.symm
  refine lv_aload_n hx hb dL_law_559 rfl (lv_at hl 1 rfl) ?_
  refine lv_aload_n hx hb dL_law_560 rfl (lv_at hl 3 rfl) ?_
  refine lv_iload_n hx hb dL_law_561 rfl (lv_at hl 0 rfl) ?_
  refine lv_iconst (v := (1 : Int32)) hx hb dL_law_562 (by decide) ?_
  refine lv_iadd hx hb dL_law_563 ?_
  refine va_sld hx hb hX hbl hbA hS h1 dL_law_564 ?_
  refine lv_aload_n hx hb dL_law_565 rfl (lv_at hl 3 rfl) ?_
  refine lv_iload_n hx hb dL_law_566 rfl (lv_at hl 0 rfl) ?_
  refine lv_iconst (v := (2 : Int32)) hx hb dL_law_567 (by decide) ?_
  refine lv_iadd hx hb dL_law_568 ?_
  refine va_sld hx hb hX hbl hbA hS h2 dL_law_569 ?_
  refine lv_aload_n hx hb dL_law_570 rfl (lv_at hl 3 rfl) ?_
  refine lv_iload_n hx hb dL_law_571 rfl (lv_at hl 0 rfl) ?_
  refine lv_iconst (v := (3 : Int32)) hx hb dL_law_572 (by decide) ?_
  refine lv_iadd hx hb dL_law_573 ?_
  refine va_sld hx hb hX hbl hbA hS h3 dL_law_574 ?_
  replace hP := P_perm hP List.perm_append_comm
  replace hD := D_perm hD List.perm_append_comm
  refine cl_w (wr := wX Y v nS tT tD xT gN fN gA fA gK gL zZ lZ fW lP) (va_runV (As := [.int (xs (x + 1).toNatClampNeg), .int (xs (x + 2).toNatClampNeg), .int (xs (x + 3).toNatClampNeg)]) (rest := [.int r]) ⟨hx, hb, hml, hown, hts⟩ (ctX5_touch l D Y u H.size mM tk (xs (x + 1).toNatClampNeg) (xs (x + 2).toNatClampNeg) (xs (x + 3).toNatClampNeg) r e2) (cwV 3 hts gL_law_X5_touch rfl rfl rfl (by decide +kernel) ⟨Nat.le_of_ble_eq_true rfl, Nat.le_of_ble_eq_true rfl⟩) (pcW_FV hK hP hD rfl) rfl rfl hl.1 rfl (lv_room (Nat.le_of_ble_eq_true rfl)) dL_law_575 ⟨Nat.le_of_ble_eq_true rfl, Nat.le_of_ble_eq_true rfl⟩) hP hD hS hA rfl (fun H locs hP hD hS => ?_)
  refine lv_icmp_eq (tgt := 923) hx hb dL_law_578 (by decide) (fun _ => kk _ _ ⟨nS, tT, tD, xT, gN, fN, gA, fA, gK, gL, zZ, lZ, fW, lP, mM, tk, hI, P_perm hP List.perm_append_comm, D_perm hD List.perm_append_comm, hS⟩) (fun z => absurd rfl z)
