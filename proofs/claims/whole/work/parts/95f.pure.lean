/-! the law's cases 20 .. 24 -/
set_option maxHeartbeats 4000000 in
set_option maxRecDepth 100000 in
theorem lc_mends {p : Program} {l : Launch} {e : Env} {s : State} {m : MethodId} {below : List Frame} {meth : Method} {c : Code} {Q : State → Prop} {D : va_G} {Y : Nat → ClassId} {v : Nat → Nat → Nat} {u : Nat → Nat} {adK adV : Nat → Nat} {b L : Nat} {xs : Nat → Int32}
    (S : LwS p s m c b L xs D Y adK adV) {x : Int32} (h1 : vp_in (x + 1) L) (h2 : vp_in (x + 2) L) (h3 : vp_in (x + 3) L) (h4 : vp_in (x + 4) L) {H : Heap} {locs : List Loc} (hW : Wd D Y v u s H locs) {ls : Array Slot} (hl : lv_has ls 4 [(3, .int x), (2, .ref (u 0)), (1, .ref (v 0 0)), (0, .ref b)])
    (kk : ∀ (H1 : Heap) (locs1 : List Loc), Wd D Y v u s H1 locs1 → W p l e room_1 s m #[Value.ref b] below meth c H1 locs1 600000 7302250 Q (F0 m 923 ls [])) : W p l e room_1 s m #[Value.ref b] below meth c H locs 600000 7302250 Q (F0 m 778 ls []) := by
  obtain ⟨hx, hb, hml, hown, hts, hX, hbl, hK, hNf, hNm, hE⟩ := S
  obtain ⟨nS, tT, tD, xT, gN, fN, gA, fA, gK, gL, zZ, lZ, fW, lP, mM, tk, hI, hP, hD, hS⟩ := hW
  have hA : ∀ q : Nat, s.heap.size ≤ q → (fun q : Nat => s.heap.size ≤ q) q := fun _ h => h
  have hbA : ¬ (fun q : Nat => s.heap.size ≤ q) b := Nat.not_le.mpr hbl
  obtain ⟨r, gAz, fAz, mMz, e1, e2, hI⟩ := v_mends hI gA fA (xs (x + 1).toNatClampNeg) (xs (x + 2).toNatClampNeg) (xs (x + 3).toNatClampNeg) (xs (x + 4).toNatClampNeg)
  refine lv_aload_n hx hb dL_law_778 rfl (lv_at hl 2 rfl) ?_
  refine lv_aload_n hx hb dL_law_779 rfl (lv_at hl 3 rfl) ?_
  refine lv_iload_n hx hb dL_law_780 rfl (lv_at hl 0 rfl) ?_
  refine lv_iconst (v := (1 : Int32)) hx hb dL_law_781 (by decide) ?_
  refine lv_iadd hx hb dL_law_782 ?_
  refine va_sld hx hb hX hbl hbA hS h1 dL_law_783 ?_
  refine lv_aload_n hx hb dL_law_784 rfl (lv_at hl 3 rfl) ?_
  refine lv_iload_n hx hb dL_law_785 rfl (lv_at hl 0 rfl) ?_
  refine lv_iconst (v := (2 : Int32)) hx hb dL_law_786 (by decide) ?_
  refine lv_iadd hx hb dL_law_787 ?_
  refine va_sld hx hb hX hbl hbA hS h2 dL_law_788 ?_
  refine lv_aload_n hx hb dL_law_789 rfl (lv_at hl 3 rfl) ?_
  refine lv_iload_n hx hb dL_law_790 rfl (lv_at hl 0 rfl) ?_
  refine lv_iconst (v := (3 : Int32)) hx hb dL_law_791 (by decide) ?_
  refine lv_iadd hx hb dL_law_792 ?_
  refine va_sld hx hb hX hbl hbA hS h3 dL_law_793 ?_
  refine lv_aload_n hx hb dL_law_794 rfl (lv_at hl 3 rfl) ?_
  refine lv_iload_n hx hb dL_law_795 rfl (lv_at hl 0 rfl) ?_
  refine lv_iconst (v := (4 : Int32)) hx hb dL_law_796 (by decide) ?_
  refine lv_iadd hx hb dL_law_797 ?_
  refine va_sld hx hb hX hbl hbA hS h4 dL_law_798 ?_
  replace hP := P_perm hP pw_0_1_4_6_7
  replace hD := D_perm hD pw_0_1_4_6_7
  refine cl_w (wr := cTold Y (v 2) tD ++ cText Y (v 3) xT ++ cRow Y (v 4 3) 8 fN ++ cStand Y (v 6) (v 1 0) (v 6 3) gK ++ cStand Y (v 7) (v 1 0) (v 7 3) gL ++ cSearch Y (v 8) (v 5 0) zZ lZ ++ cRow Y (v 9 0) 8 fW ++ cLong Y (v 9 1) 501 lP ++ cMod Y u mM tk) (va_runV (As := [.int (xs (x + 1).toNatClampNeg), .int (xs (x + 2).toNatClampNeg), .int (xs (x + 3).toNatClampNeg), .int (xs (x + 4).toNatClampNeg)]) (rest := []) ⟨hx, hb, hml, hown, hts⟩ (ctX4_mends l D Y (v 0) (v 1) (v 4) (v 5) (v 5 3) (v 2 0) (v 3 0) (v 8 0) (v 9 0) (v 9 1) (v 6 0) (v 7 0) (v 4 3) H.size nS tT gN gA fA (xs (x + 1).toNatClampNeg) (xs (x + 2).toNatClampNeg) (xs (x + 3).toNatClampNeg) (xs (x + 4).toNatClampNeg) r gAz fAz e1) (cwV 4 hts gL_law_X4_mends rfl rfl rfl (by decide +kernel) ⟨Nat.le_of_ble_eq_true rfl, Nat.le_of_ble_eq_true rfl⟩) (pcW_FV hK hP hD rfl) rfl rfl hl.1 rfl (lv_room (Nat.le_of_ble_eq_true rfl)) dL_law_799 ⟨Nat.le_of_ble_eq_true rfl, Nat.le_of_ble_eq_true rfl⟩) hP hD hS hA rfl (fun H locs hP hD hS => ?_)
  have hP : va_P D vwCl (wX Y v nS tT tD xT gN fN gAz fAz gK gL zZ lZ fW lP ++ cMod Y u mM tk) H := P_perm hP pw_0_1_4_6_7.symm
  have hD : va_D (fun q : Nat => s.heap.size ≤ q) (wX Y v nS tT tD xT gN fN gAz fAz gK gL zZ lZ fW lP ++ cMod Y u mM tk) := D_perm hD pw_0_1_4_6_7.symm
  refine lv_aload_n hx hb dL_law_802 rfl (lv_at hl 1 rfl) ?_
  refine lv_aload_n hx hb dL_law_803 rfl (lv_at hl 3 rfl) ?_
  refine lv_iload_n hx hb dL_law_804 rfl (lv_at hl 0 rfl) ?_
  refine lv_iconst (v := (1 : Int32)) hx hb dL_law_805 (by decide) ?_
  refine lv_iadd hx hb dL_law_806 ?_
  refine va_sld hx hb hX hbl hbA hS h1 dL_law_807 ?_
  refine lv_aload_n hx hb dL_law_808 rfl (lv_at hl 3 rfl) ?_
  refine lv_iload_n hx hb dL_law_809 rfl (lv_at hl 0 rfl) ?_
  refine lv_iconst (v := (2 : Int32)) hx hb dL_law_810 (by decide) ?_
  refine lv_iadd hx hb dL_law_811 ?_
  refine va_sld hx hb hX hbl hbA hS h2 dL_law_812 ?_
  refine lv_aload_n hx hb dL_law_813 rfl (lv_at hl 3 rfl) ?_
  refine lv_iload_n hx hb dL_law_814 rfl (lv_at hl 0 rfl) ?_
  refine lv_iconst (v := (3 : Int32)) hx hb dL_law_815 (by decide) ?_
  refine lv_iadd hx hb dL_law_816 ?_
  refine va_sld hx hb hX hbl hbA hS h3 dL_law_817 ?_
  refine lv_aload_n hx hb dL_law_818 rfl (lv_at hl 3 rfl) ?_
  refine lv_iload_n hx hb dL_law_819 rfl (lv_at hl 0 rfl) ?_
  refine lv_iconst (v := (4 : Int32)) hx hb dL_law_820 (by decide) ?_
  refine lv_iadd hx hb dL_law_821 ?_
  refine va_sld hx hb hX hbl hbA hS h4 dL_law_822 ?_
  replace hP := P_perm hP List.perm_append_comm
  replace hD := D_perm hD List.perm_append_comm
  refine cl_w (wr := wX Y v nS tT tD xT gN fN gAz fAz gK gL zZ lZ fW lP) (va_runV (As := [.int (xs (x + 1).toNatClampNeg), .int (xs (x + 2).toNatClampNeg), .int (xs (x + 3).toNatClampNeg), .int (xs (x + 4).toNatClampNeg)]) (rest := [.int r]) ⟨hx, hb, hml, hown, hts⟩ (ctX5_mends l D Y u H.size mM tk (xs (x + 1).toNatClampNeg) (xs (x + 2).toNatClampNeg) (xs (x + 3).toNatClampNeg) (xs (x + 4).toNatClampNeg) r mMz e2) (cwV 4 hts gL_law_X5_mends rfl rfl rfl (by decide +kernel) ⟨Nat.le_of_ble_eq_true rfl, Nat.le_of_ble_eq_true rfl⟩) (pcW_FV hK hP hD rfl) rfl rfl hl.1 rfl (lv_room (Nat.le_of_ble_eq_true rfl)) dL_law_823 ⟨Nat.le_of_ble_eq_true rfl, Nat.le_of_ble_eq_true rfl⟩) hP hD hS hA rfl (fun H locs hP hD hS => ?_)
  refine lv_icmp_eq (tgt := 923) hx hb dL_law_826 (by decide) (fun _ => kk _ _ ⟨nS, tT, tD, xT, gN, fN, gAz, fAz, gK, gL, zZ, lZ, fW, lP, mMz, tk, hI, P_perm hP List.perm_append_comm, D_perm hD List.perm_append_comm, hS⟩) (fun z => absurd rfl z)
set_option maxHeartbeats 4000000 in
set_option maxRecDepth 100000 in
theorem lc_seen {p : Program} {l : Launch} {e : Env} {s : State} {m : MethodId} {below : List Frame} {meth : Method} {c : Code} {Q : State → Prop} {D : va_G} {Y : Nat → ClassId} {v : Nat → Nat → Nat} {u : Nat → Nat} {adK adV : Nat → Nat} {b L : Nat} {xs : Nat → Int32}
    (S : LwS p s m c b L xs D Y adK adV) {x : Int32} (h1 : vp_in (x + 1) L) (h2 : vp_in (x + 2) L) (h3 : vp_in (x + 3) L) (h4 : vp_in (x + 4) L) {H : Heap} {locs : List Loc} (hW : Wd D Y v u s H locs) {ls : Array Slot} (hl : lv_has ls 4 [(3, .int x), (2, .ref (u 0)), (1, .ref (v 0 0)), (0, .ref b)])
    (kk : ∀ (H1 : Heap) (locs1 : List Loc), Wd D Y v u s H1 locs1 → W p l e room_1 s m #[Value.ref b] below meth c H1 locs1 600000 7302250 Q (F0 m 923 ls [])) : W p l e room_1 s m #[Value.ref b] below meth c H locs 600000 7302250 Q (F0 m 831 ls []) := by
  obtain ⟨hx, hb, hml, hown, hts, hX, hbl, hK, hNf, hNm, hE⟩ := S
  obtain ⟨nS, tT, tD, xT, gN, fN, gA, fA, gK, gL, zZ, lZ, fW, lP, mM, tk, hI, hP, hD, hS⟩ := hW
  have hA : ∀ q : Nat, s.heap.size ≤ q → (fun q : Nat => s.heap.size ≤ q) q := fun _ h => h
  have hbA : ¬ (fun q : Nat => s.heap.size ≤ q) b := Nat.not_le.mpr hbl
  obtain ⟨r, nSz, mMz, e1, e2, hI⟩ := v_seen hI (xs (x + 1).toNatClampNeg) (xs (x + 2).toNatClampNeg) (xs (x + 3).toNatClampNeg)
  refine lv_aload_n hx hb dL_law_831 rfl (lv_at hl 2 rfl) ?_
  refine lv_aload_n hx hb dL_law_832 rfl (lv_at hl 3 rfl) ?_
  refine lv_iload_n hx hb dL_law_833 rfl (lv_at hl 0 rfl) ?_
  refine lv_iconst (v := (1 : Int32)) hx hb dL_law_834 (by decide) ?_
  refine lv_iadd hx hb dL_law_835 ?_
  refine va_sld hx hb hX hbl hbA hS h1 dL_law_836 ?_
  refine lv_aload_n hx hb dL_law_837 rfl (lv_at hl 3 rfl) ?_
  refine lv_iload_n hx hb dL_law_838 rfl (lv_at hl 0 rfl) ?_
  refine lv_iconst (v := (2 : Int32)) hx hb dL_law_839 (by decide) ?_
  refine lv_iadd hx hb dL_law_840 ?_
  refine va_sld hx hb hX hbl hbA hS h2 dL_law_841 ?_
  refine lv_aload_n hx hb dL_law_842 rfl (lv_at hl 3 rfl) ?_
  refine lv_iload_n hx hb dL_law_843 rfl (lv_at hl 0 rfl) ?_
  refine lv_iconst (v := (3 : Int32)) hx hb dL_law_844 (by decide) ?_
  refine lv_iadd hx hb dL_law_845 ?_
  refine va_sld hx hb hX hbl hbA hS h3 dL_law_846 ?_
  replace hP := P_perm hP pw_0_1
  replace hD := D_perm hD pw_0_1
  refine cl_w (wr := cTold Y (v 2) tD ++ cText Y (v 3) xT ++ cStand Y (v 4) (v 1 0) (v 4 3) gN ++ cRow Y (v 4 3) 8 fN ++ cStand Y (v 5) (v 1 0) (v 5 3) gA ++ cRow Y (v 5 3) 8 fA ++ cStand Y (v 6) (v 1 0) (v 6 3) gK ++ cStand Y (v 7) (v 1 0) (v 7 3) gL ++ cSearch Y (v 8) (v 5 0) zZ lZ ++ cRow Y (v 9 0) 8 fW ++ cLong Y (v 9 1) 501 lP ++ cMod Y u mM tk) (va_runV (As := [.int (xs (x + 1).toNatClampNeg), .int (xs (x + 2).toNatClampNeg), .int (xs (x + 3).toNatClampNeg)]) (rest := []) ⟨hx, hb, hml, hown, hts⟩ (ctX4_seen l D Y (v 0) (v 1) (v 2 0) (v 3 0) (v 4 0) (v 5 0) (v 8 0) (v 9 0) (v 9 1) (v 6 0) (v 7 0) H.size nS tT (xs (x + 1).toNatClampNeg) (xs (x + 2).toNatClampNeg) (xs (x + 3).toNatClampNeg) r nSz e1) (cwV 3 hts gL_law_X4_seen rfl rfl rfl (by decide +kernel) ⟨Nat.le_of_ble_eq_true rfl, Nat.le_of_ble_eq_true rfl⟩) (pcW_FV hK hP hD rfl) rfl rfl hl.1 rfl (lv_room (Nat.le_of_ble_eq_true rfl)) dL_law_847 ⟨Nat.le_of_ble_eq_true rfl, Nat.le_of_ble_eq_true rfl⟩) hP hD hS hA rfl (fun H locs hP hD hS => ?_)
  have hP : va_P D vwCl (wX Y v nSz tT tD xT gN fN gA fA gK gL zZ lZ fW lP ++ cMod Y u mM tk) H := P_perm hP pw_0_1.symm
  have hD : va_D (fun q : Nat => s.heap.size ≤ q) (wX Y v nSz tT tD xT gN fN gA fA gK gL zZ lZ fW lP ++ cMod Y u mM tk) := D_perm hD pw_0_1.symm
  refine lv_aload_n hx hb dL_law_850 rfl (lv_at hl 1 rfl) ?_
  refine lv_aload_n hx hb dL_law_851 rfl (lv_at hl 3 rfl) ?_
  refine lv_iload_n hx hb dL_law_852 rfl (lv_at hl 0 rfl) ?_
  refine lv_iconst (v := (1 : Int32)) hx hb dL_law_853 (by decide) ?_
  refine lv_iadd hx hb dL_law_854 ?_
  refine va_sld hx hb hX hbl hbA hS h1 dL_law_855 ?_
  refine lv_aload_n hx hb dL_law_856 rfl (lv_at hl 3 rfl) ?_
  refine lv_iload_n hx hb dL_law_857 rfl (lv_at hl 0 rfl) ?_
  refine lv_iconst (v := (2 : Int32)) hx hb dL_law_858 (by decide) ?_
  refine lv_iadd hx hb dL_law_859 ?_
  refine va_sld hx hb hX hbl hbA hS h2 dL_law_860 ?_
  refine lv_aload_n hx hb dL_law_861 rfl (lv_at hl 3 rfl) ?_
  refine lv_iload_n hx hb dL_law_862 rfl (lv_at hl 0 rfl) ?_
  refine lv_iconst (v := (3 : Int32)) hx hb dL_law_863 (by decide) ?_
  refine lv_iadd hx hb dL_law_864 ?_
  refine va_sld hx hb hX hbl hbA hS h3 dL_law_865 ?_
  replace hP := P_perm hP List.perm_append_comm
  replace hD := D_perm hD List.perm_append_comm
  refine cl_w (wr := wX Y v nSz tT tD xT gN fN gA fA gK gL zZ lZ fW lP) (va_runV (As := [.int (xs (x + 1).toNatClampNeg), .int (xs (x + 2).toNatClampNeg), .int (xs (x + 3).toNatClampNeg)]) (rest := [.int r]) ⟨hx, hb, hml, hown, hts⟩ (ctX5_seen l D Y u H.size mM tk (xs (x + 1).toNatClampNeg) (xs (x + 2).toNatClampNeg) (xs (x + 3).toNatClampNeg) r mMz e2) (cwV 3 hts gL_law_X5_seen rfl rfl rfl (by decide +kernel) ⟨Nat.le_of_ble_eq_true rfl, Nat.le_of_ble_eq_true rfl⟩) (pcW_FV hK hP hD rfl) rfl rfl hl.1 rfl (lv_room (Nat.le_of_ble_eq_true rfl)) dL_law_866 ⟨Nat.le_of_ble_eq_true rfl, Nat.le_of_ble_eq_true rfl⟩) hP hD hS hA rfl (fun H locs hP hD hS => ?_)
  refine lv_icmp_eq (tgt := 923) hx hb dL_law_869 (by decide) (fun _ => kk _ _ ⟨nSz, tT, tD, xT, gN, fN, gA, fA, gK, gL, zZ, lZ, fW, lP, mMz, tk, hI, P_perm hP List.perm_append_comm, D_perm hD List.perm_append_comm, hS⟩) (fun z => absurd rfl z)
set_option maxHeartbeats 4000000 in
set_option maxRecDepth 100000 in
theorem lc_forget {p : Program} {l : Launch} {e : Env} {s : State} {m : MethodId} {below : List Frame} {meth : Method} {c : Code} {Q : State → Prop} {D : va_G} {Y : Nat → ClassId} {v : Nat → Nat → Nat} {u : Nat → Nat} {adK adV : Nat → Nat} {b L : Nat} {xs : Nat → Int32}
    (S : LwS p s m c b L xs D Y adK adV) {x : Int32} (h1 : vp_in (x + 1) L) (h2 : vp_in (x + 2) L) (h3 : vp_in (x + 3) L) (h4 : vp_in (x + 4) L) {H : Heap} {locs : List Loc} (hW : Wd D Y v u s H locs) {ls : Array Slot} (hl : lv_has ls 4 [(3, .int x), (2, .ref (u 0)), (1, .ref (v 0 0)), (0, .ref b)])
    (kk : ∀ (H1 : Heap) (locs1 : List Loc), Wd D Y v u s H1 locs1 → W p l e room_1 s m #[Value.ref b] below meth c H1 locs1 600000 7302250 Q (F0 m 923 ls [])) : W p l e room_1 s m #[Value.ref b] below meth c H locs 600000 7302250 Q (F0 m 874 ls []) := by
  obtain ⟨hx, hb, hml, hown, hts, hX, hbl, hK, hNf, hNm, hE⟩ := S
  obtain ⟨nS, tT, tD, xT, gN, fN, gA, fA, gK, gL, zZ, lZ, fW, lP, mM, tk, hI, hP, hD, hS⟩ := hW
  have hA : ∀ q : Nat, s.heap.size ≤ q → (fun q : Nat => s.heap.size ≤ q) q := fun _ h => h
  have hbA : ¬ (fun q : Nat => s.heap.size ≤ q) b := Nat.not_le.mpr hbl
  obtain ⟨r, nSz, mMz, e1, e2, hI⟩ := v_forget hI
  refine lv_aload_n hx hb dL_law_874 rfl (lv_at hl 2 rfl) ?_
  replace hP := P_perm hP pw_0
  replace hD := D_perm hD pw_0
  refine cl_w (wr := cTold Y (v 1) tT ++ cTold Y (v 2) tD ++ cText Y (v 3) xT ++ cStand Y (v 4) (v 1 0) (v 4 3) gN ++ cRow Y (v 4 3) 8 fN ++ cStand Y (v 5) (v 1 0) (v 5 3) gA ++ cRow Y (v 5 3) 8 fA ++ cStand Y (v 6) (v 1 0) (v 6 3) gK ++ cStand Y (v 7) (v 1 0) (v 7 3) gL ++ cSearch Y (v 8) (v 5 0) zZ lZ ++ cRow Y (v 9 0) 8 fW ++ cLong Y (v 9 1) 501 lP ++ cMod Y u mM tk) (va_runV (As := []) (rest := []) ⟨hx, hb, hml, hown, hts⟩ (ctX4_forget l D Y (v 0) (v 1 0) (v 2 0) (v 3 0) (v 4 0) (v 5 0) (v 8 0) (v 9 0) (v 9 1) (v 6 0) (v 7 0) H.size nS r nSz e1) (cwV 0 hts gL_law_X4_forget rfl rfl rfl (by decide +kernel) ⟨Nat.le_of_ble_eq_true rfl, Nat.le_of_ble_eq_true rfl⟩) (pcW_FV hK hP hD rfl) rfl rfl hl.1 rfl (lv_room (Nat.le_of_ble_eq_true rfl)) dL_law_875 ⟨Nat.le_of_ble_eq_true rfl, Nat.le_of_ble_eq_true rfl⟩) hP hD hS hA rfl (fun H locs hP hD hS => ?_)
  have hP : va_P D vwCl (wX Y v nSz tT tD xT gN fN gA fA gK gL zZ lZ fW lP ++ cMod Y u mM tk) H := P_perm hP pw_0.symm
  have hD : va_D (fun q : Nat => s.heap.size ≤ q) (wX Y v nSz tT tD xT gN fN gA fA gK gL zZ lZ fW lP ++ cMod Y u mM tk) := D_perm hD pw_0.symm
  refine lv_aload_n hx hb dL_law_878 rfl (lv_at hl 1 rfl) ?_
  replace hP := P_perm hP List.perm_append_comm
  replace hD := D_perm hD List.perm_append_comm
  refine cl_w (wr := wX Y v nSz tT tD xT gN fN gA fA gK gL zZ lZ fW lP) (va_runV (As := []) (rest := [.int r]) ⟨hx, hb, hml, hown, hts⟩ (ctX5_forget l D Y u H.size mM tk r mMz e2) (cwV 0 hts gL_law_X5_forget rfl rfl rfl (by decide +kernel) ⟨Nat.le_of_ble_eq_true rfl, Nat.le_of_ble_eq_true rfl⟩) (pcW_FV hK hP hD rfl) rfl rfl hl.1 rfl (lv_room (Nat.le_of_ble_eq_true rfl)) dL_law_879 ⟨Nat.le_of_ble_eq_true rfl, Nat.le_of_ble_eq_true rfl⟩) hP hD hS hA rfl (fun H locs hP hD hS => ?_)
  refine lv_icmp_eq (tgt := 923) hx hb dL_law_882 (by decide) (fun _ => kk _ _ ⟨nSz, tT, tD, xT, gN, fN, gA, fA, gK, gL, zZ, lZ, fW, lP, mMz, tk, hI, P_perm hP List.perm_append_comm, D_perm hD List.perm_append_comm, hS⟩) (fun z => absurd rfl z)
set_option maxHeartbeats 4000000 in
set_option maxRecDepth 100000 in
theorem lc_laws {p : Program} {l : Launch} {e : Env} {s : State} {m : MethodId} {below : List Frame} {meth : Method} {c : Code} {Q : State → Prop} {D : va_G} {Y : Nat → ClassId} {v : Nat → Nat → Nat} {u : Nat → Nat} {adK adV : Nat → Nat} {b L : Nat} {xs : Nat → Int32}
    (S : LwS p s m c b L xs D Y adK adV) {x : Int32} (h1 : vp_in (x + 1) L) (h2 : vp_in (x + 2) L) (h3 : vp_in (x + 3) L) (h4 : vp_in (x + 4) L) {H : Heap} {locs : List Loc} (hW : Wd D Y v u s H locs) {ls : Array Slot} (hl : lv_has ls 4 [(3, .int x), (2, .ref (u 0)), (1, .ref (v 0 0)), (0, .ref b)])
    (kk : ∀ (H1 : Heap) (locs1 : List Loc), Wd D Y v u s H1 locs1 → W p l e room_1 s m #[Value.ref b] below meth c H1 locs1 600000 7302250 Q (F0 m 923 ls [])) : W p l e room_1 s m #[Value.ref b] below meth c H locs 600000 7302250 Q (F0 m 887 ls []) := by
  obtain ⟨hx, hb, hml, hown, hts, hX, hbl, hK, hNf, hNm, hE⟩ := S
  obtain ⟨nS, tT, tD, xT, gN, fN, gA, fA, gK, gL, zZ, lZ, fW, lP, mM, tk, hI, hP, hD, hS⟩ := hW
  have hA : ∀ q : Nat, s.heap.size ≤ q → (fun q : Nat => s.heap.size ≤ q) q := fun _ h => h
  have hbA : ¬ (fun q : Nat => s.heap.size ≤ q) b := Nat.not_le.mpr hbl
  obtain ⟨r, gAz, fAz, mMz, e1, e2, hI⟩ := v_laws hI gA fA
  refine lv_aload_n hx hb dL_law_887 rfl (lv_at hl 2 rfl) ?_
  replace hP := P_perm hP pw_0_1_6_7
  replace hD := D_perm hD pw_0_1_6_7
  refine cl_w (wr := cTold Y (v 2) tD ++ cText Y (v 3) xT ++ cStand Y (v 4) (v 1 0) (v 4 3) gN ++ cRow Y (v 4 3) 8 fN ++ cStand Y (v 6) (v 1 0) (v 6 3) gK ++ cStand Y (v 7) (v 1 0) (v 7 3) gL ++ cSearch Y (v 8) (v 5 0) zZ lZ ++ cRow Y (v 9 0) 8 fW ++ cLong Y (v 9 1) 501 lP ++ cMod Y u mM tk) (va_runV (As := []) (rest := []) ⟨hx, hb, hml, hown, hts⟩ (ctX4_laws l D Y (v 0) (v 1) (v 5) (v 5 3) (v 2 0) (v 3 0) (v 4 0) (v 8 0) (v 9 0) (v 9 1) (v 6 0) (v 7 0) H.size nS tT gA fA r gAz fAz e1) (cwV 0 hts gL_law_X4_laws rfl rfl rfl (by decide +kernel) ⟨Nat.le_of_ble_eq_true rfl, Nat.le_of_ble_eq_true rfl⟩) (pcW_FV hK hP hD rfl) rfl rfl hl.1 rfl (lv_room (Nat.le_of_ble_eq_true rfl)) dL_law_888 ⟨Nat.le_of_ble_eq_true rfl, Nat.le_of_ble_eq_true rfl⟩) hP hD hS hA rfl (fun H locs hP hD hS => ?_)
  have hP : va_P D vwCl (wX Y v nS tT tD xT gN fN gAz fAz gK gL zZ lZ fW lP ++ cMod Y u mM tk) H := P_perm hP pw_0_1_6_7.symm
  have hD : va_D (fun q : Nat => s.heap.size ≤ q) (wX Y v nS tT tD xT gN fN gAz fAz gK gL zZ lZ fW lP ++ cMod Y u mM tk) := D_perm hD pw_0_1_6_7.symm
  refine lv_aload_n hx hb dL_law_891 rfl (lv_at hl 1 rfl) ?_
  replace hP := P_perm hP List.perm_append_comm
  replace hD := D_perm hD List.perm_append_comm
  refine cl_w (wr := wX Y v nS tT tD xT gN fN gAz fAz gK gL zZ lZ fW lP) (va_runV (As := []) (rest := [.int r]) ⟨hx, hb, hml, hown, hts⟩ (ctX5_laws l D Y u H.size mM tk r mMz e2) (cwV 0 hts gL_law_X5_laws rfl rfl rfl (by decide +kernel) ⟨Nat.le_of_ble_eq_true rfl, Nat.le_of_ble_eq_true rfl⟩) (pcW_FV hK hP hD rfl) rfl rfl hl.1 rfl (lv_room (Nat.le_of_ble_eq_true rfl)) dL_law_892 ⟨Nat.le_of_ble_eq_true rfl, Nat.le_of_ble_eq_true rfl⟩) hP hD hS hA rfl (fun H locs hP hD hS => ?_)
  refine lv_icmp_eq (tgt := 923) hx hb dL_law_895 (by decide) (fun _ => kk _ _ ⟨nS, tT, tD, xT, gN, fN, gAz, fAz, gK, gL, zZ, lZ, fW, lP, mMz, tk, hI, P_perm hP List.perm_append_comm, D_perm hD List.perm_append_comm, hS⟩) (fun z => absurd rfl z)
set_option maxHeartbeats 4000000 in
set_option maxRecDepth 100000 in
theorem lc_count {p : Program} {l : Launch} {e : Env} {s : State} {m : MethodId} {below : List Frame} {meth : Method} {c : Code} {Q : State → Prop} {D : va_G} {Y : Nat → ClassId} {v : Nat → Nat → Nat} {u : Nat → Nat} {adK adV : Nat → Nat} {b L : Nat} {xs : Nat → Int32}
    (S : LwS p s m c b L xs D Y adK adV) {x : Int32} (h1 : vp_in (x + 1) L) (h2 : vp_in (x + 2) L) (h3 : vp_in (x + 3) L) (h4 : vp_in (x + 4) L) {H : Heap} {locs : List Loc} (hW : Wd D Y v u s H locs) {ls : Array Slot} (hl : lv_has ls 4 [(3, .int x), (2, .ref (u 0)), (1, .ref (v 0 0)), (0, .ref b)])
    (kk : ∀ (H1 : Heap) (locs1 : List Loc), Wd D Y v u s H1 locs1 → W p l e room_1 s m #[Value.ref b] below meth c H1 locs1 600000 7302250 Q (F0 m 923 ls [])) : W p l e room_1 s m #[Value.ref b] below meth c H locs 600000 7302250 Q (F0 m 900 ls []) := by
  obtain ⟨hx, hb, hml, hown, hts, hX, hbl, hK, hNf, hNm, hE⟩ := S
  obtain ⟨nS, tT, tD, xT, gN, fN, gA, fA, gK, gL, zZ, lZ, fW, lP, mM, tk, hI, hP, hD, hS⟩ := hW
  have hA : ∀ q : Nat, s.heap.size ≤ q → (fun q : Nat => s.heap.size ≤ q) q := fun _ h => h
  have hbA : ¬ (fun q : Nat => s.heap.size ≤ q) b := Nat.not_le.mpr hbl
  obtain ⟨r, e1, e2⟩ := v_count hI (xs (x + 1).toNatClampNeg)
  refine lv_aload_n hx hb dL_law_900 rfl (lv_at hl 2 rfl) ?_
  refine lv_aload_n hx hb dL_law_901 rfl (lv_at hl 3 rfl) ?_
  refine lv_iload_n hx hb dL_law_902 rfl (lv_at hl 0 rfl) ?_
  refine lv_iconst (v := (1 : Int32)) hx hb dL_law_903 (by decide) ?_
  refine lv_iadd hx hb dL_law_904 ?_
  refine va_sld hx hb hX hbl hbA hS h1 dL_law_905 ?_
  replace hP := P_perm hP pw_0_1_3_4
  replace hD := D_perm hD pw_0_1_3_4
  refine cl_w (wr := cTold Y (v 2) tD ++ cRow Y (v 4 3) 8 fN ++ cStand Y (v 5) (v 1 0) (v 5 3) gA ++ cRow Y (v 5 3) 8 fA ++ cStand Y (v 6) (v 1 0) (v 6 3) gK ++ cStand Y (v 7) (v 1 0) (v 7 3) gL ++ cSearch Y (v 8) (v 5 0) zZ lZ ++ cRow Y (v 9 0) 8 fW ++ cLong Y (v 9 1) 501 lP ++ cMod Y u mM tk) (va_runV (As := [.int (xs (x + 1).toNatClampNeg)]) (rest := []) ⟨hx, hb, hml, hown, hts⟩ (ctX4_count l D Y (v 0) (v 1) (v 3) (v 4) (v 2 0) (v 5 0) (v 8 0) (v 9 0) (v 9 1) (v 6 0) (v 7 0) (v 4 3) H.size nS tT xT gN (xs (x + 1).toNatClampNeg) r e1) (cwV 1 hts gL_law_X4_count rfl rfl rfl (by decide +kernel) ⟨Nat.le_of_ble_eq_true rfl, Nat.le_of_ble_eq_true rfl⟩) (pcW_FV hK hP hD rfl) rfl rfl hl.1 rfl (lv_room (Nat.le_of_ble_eq_true rfl)) dL_law_906 ⟨Nat.le_of_ble_eq_true rfl, Nat.le_of_ble_eq_true rfl⟩) hP hD hS hA rfl (fun H locs hP hD hS => ?_)
  have hP : va_P D vwCl (wX Y v nS tT tD xT gN fN gA fA gK gL zZ lZ fW lP ++ cMod Y u mM tk) H := P_perm hP pw_0_1_3_4.symm
  have hD : va_D (fun q : Nat => s.heap.size ≤ q) (wX Y v nS tT tD xT gN fN gA fA gK gL zZ lZ fW lP ++ cMod Y u mM tk) := D_perm hD pw_0_1_3_4.symm
  refine lv_aload_n hx hb dL_law_909 rfl (lv_at hl 1 rfl) ?_
  refine lv_aload_n hx hb dL_law_910 rfl (lv_at hl 3 rfl) ?_
  refine lv_iload_n hx hb dL_law_911 rfl (lv_at hl 0 rfl) ?_
  refine lv_iconst (v := (1 : Int32)) hx hb dL_law_912 (by decide) ?_
  refine lv_iadd hx hb dL_law_913 ?_
  refine va_sld hx hb hX hbl hbA hS h1 dL_law_914 ?_
  replace hP := P_perm hP List.perm_append_comm
  replace hD := D_perm hD List.perm_append_comm
  refine cl_w (wr := wX Y v nS tT tD xT gN fN gA fA gK gL zZ lZ fW lP) (va_runV (As := [.int (xs (x + 1).toNatClampNeg)]) (rest := [.int r]) ⟨hx, hb, hml, hown, hts⟩ (ctX5_count l D Y u H.size mM tk (xs (x + 1).toNatClampNeg) r e2) (cwV 1 hts gL_law_X5_count rfl rfl rfl (by decide +kernel) ⟨Nat.le_of_ble_eq_true rfl, Nat.le_of_ble_eq_true rfl⟩) (pcW_FV hK hP hD rfl) rfl rfl hl.1 rfl (lv_room (Nat.le_of_ble_eq_true rfl)) dL_law_915 ⟨Nat.le_of_ble_eq_true rfl, Nat.le_of_ble_eq_true rfl⟩) hP hD hS hA rfl (fun H locs hP hD hS => ?_)
  refine lv_icmp_eq (tgt := 923) hx hb dL_law_918 (by decide) (fun _ => kk _ _ ⟨nS, tT, tD, xT, gN, fN, gA, fA, gK, gL, zZ, lZ, fW, lP, mM, tk, hI, P_perm hP List.perm_append_comm, D_perm hD List.perm_append_comm, hS⟩) (fun z => absurd rfl z)
