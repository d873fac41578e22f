/-! the law's cases 0 .. 4 -/
set_option maxHeartbeats 4000000 in
set_option maxRecDepth 100000 in
theorem lc_write {p : Program} {l : Launch} {e : Env} {s : State} {m : MethodId} {below : List Frame} {meth : Method} {c : Code} {Q : State → Prop} {D : va_G} {Y : Nat → ClassId} {v : Nat → Nat → Nat} {u : Nat → Nat} {adK adV : Nat → Nat} {b L : Nat} {xs : Nat → Int32}
    (S : LwS p s m c b L xs D Y adK adV) {x : Int32} (h1 : vp_in (x + 1) L) (h2 : vp_in (x + 2) L) (h3 : vp_in (x + 3) L) (h4 : vp_in (x + 4) L) {H : Heap} {locs : List Loc} (hW : Wd D Y v u s H locs) {ls : Array Slot} (hl : lv_has ls 4 [(3, .int x), (2, .ref (u 0)), (1, .ref (v 0 0)), (0, .ref b)])
    (kk : ∀ (H1 : Heap) (locs1 : List Loc), Wd D Y v u s H1 locs1 → W p l e room_1 s m #[Value.ref b] below meth c H1 locs1 600000 7302250 Q (F0 m 923 ls [])) : W p l e room_1 s m #[Value.ref b] below meth c H locs 600000 7302250 Q (F0 m 148 ls []) := by
  obtain ⟨hx, hb, hml, hown, hts, hX, hbl, hK, hNf, hNm, hE⟩ := S
  obtain ⟨nS, tT, tD, xT, gN, fN, gA, fA, gK, gL, zZ, lZ, fW, lP, mM, tk, hI, hP, hD, hS⟩ := hW
  have hA : ∀ q : Nat, s.heap.size ≤ q → (fun q : Nat => s.heap.size ≤ q) q := fun _ h => h
  have hbA : ¬ (fun q : Nat => s.heap.size ≤ q) b := Nat.not_le.mpr hbl
  obtain ⟨r, xTz, mMz, e1, e2, hI⟩ := v_write hI (((xs (x + 1).toNatClampNeg).toInt64 <<< ((32 : Int32).toInt64 &&& 63)) ||| ((xs (x + 2).toNatClampNeg).toInt64 &&& (4294967295 : Int64))) (xs (x + 3).toNatClampNeg)
  refine lv_aload_n hx hb dL_law_148 rfl (lv_at hl 2 rfl) ?_
  refine lv_aload_n hx hb dL_law_149 rfl (lv_at hl 3 rfl) ?_
  refine lv_iload_n hx hb dL_law_150 rfl (lv_at hl 0 rfl) ?_
  refine lv_iconst (v := (1 : Int32)) hx hb dL_law_151 (by decide) ?_
  refine lv_iadd hx hb dL_law_152 ?_
  refine va_sld hx hb hX hbl hbA hS h1 dL_law_153 ?_
  refine lv_i2l hx hb dL_law_154 rfl ?_
  refine lv_bipush (v := (32 : Int32)) hx hb dL_law_155 (by decide) ?_
  refine lv_lshl hx hb dL_law_157 rfl ?_
  refine lv_aload_n hx hb dL_law_158 rfl (lv_at hl 3 rfl) ?_
  refine lv_iload_n hx hb dL_law_159 rfl (lv_at hl 0 rfl) ?_
  refine lv_iconst (v := (2 : Int32)) hx hb dL_law_160 (by decide) ?_
  refine lv_iadd hx hb dL_law_161 ?_
  refine va_sld hx hb hX hbl hbA hS h2 dL_law_162 ?_
  refine lv_i2l hx hb dL_law_163 rfl ?_
  refine lv_ldc2 (v := (4294967295 : Int64)) hx hb hown (hts (.constantLong RL 13 (4294967295)) (lwC_in _ (List.mem_of_getElem? (i := 0) rfl) _ (List.mem_of_getElem? (i := 6) rfl))) dL_law_164 ?_
  refine lv_land hx hb dL_law_167 ?_
  refine lv_lor hx hb dL_law_168 ?_
  refine lv_aload_n hx hb dL_law_169 rfl (lv_at hl 3 rfl) ?_
  refine lv_iload_n hx hb dL_law_170 rfl (lv_at hl 0 rfl) ?_
  refine lv_iconst (v := (3 : Int32)) hx hb dL_law_171 (by decide) ?_
  refine lv_iadd hx hb dL_law_172 ?_
  refine va_sld hx hb hX hbl hbA hS h3 dL_law_173 ?_
  replace hP := P_perm hP pw_0_3
  replace hD := D_perm hD pw_0_3
  refine cl_w (wr := cTold Y (v 1) tT ++ cTold Y (v 2) tD ++ cStand Y (v 4) (v 1 0) (v 4 3) gN ++ cRow Y (v 4 3) 8 fN ++ cStand Y (v 5) (v 1 0) (v 5 3) gA ++ cRow Y (v 5 3) 8 fA ++ cStand Y (v 6) (v 1 0) (v 6 3) gK ++ cStand Y (v 7) (v 1 0) (v 7 3) gL ++ cSearch Y (v 8) (v 5 0) zZ lZ ++ cRow Y (v 9 0) 8 fW ++ cLong Y (v 9 1) 501 lP ++ cMod Y u mM tk) (va_runV (As := [.long (((xs (x + 1).toNatClampNeg).toInt64 <<< ((32 : Int32).toInt64 &&& 63)) ||| ((xs (x + 2).toNatClampNeg).toInt64 &&& (4294967295 : Int64))), .int (xs (x + 3).toNatClampNeg)]) (rest := []) ⟨hx, hb, hml, hown, hts⟩ (ctX4_write l D Y (v 0) (v 3) (v 1 0) (v 2 0) (v 4 0) (v 5 0) (v 8 0) (v 9 0) (v 9 1) (v 6 0) (v 7 0) H.size nS xT (((xs (x + 1).toNatClampNeg).toInt64 <<< ((32 : Int32).toInt64 &&& 63)) ||| ((xs (x + 2).toNatClampNeg).toInt64 &&& (4294967295 : Int64))) (xs (x + 3).toNatClampNeg) r xTz e1) (cwV 2 hts gL_law_X4_write rfl rfl rfl (by decide +kernel) ⟨Nat.le_of_ble_eq_true rfl, Nat.le_of_ble_eq_true rfl⟩) (pcW_FV hK hP hD rfl) rfl rfl hl.1 rfl (lv_room (Nat.le_of_ble_eq_true rfl)) dL_law_174 ⟨Nat.le_of_ble_eq_true rfl, Nat.le_of_ble_eq_true rfl⟩) hP hD hS hA rfl (fun H locs hP hD hS => ?_)
  have hP : va_P D vwCl (wX Y v nS tT tD xTz gN fN gA fA gK gL zZ lZ fW lP ++ cMod Y u mM tk) H := P_perm hP pw_0_3.symm
  have hD : va_D (fun q : Nat => s.heap.size ≤ q) (wX Y v nS tT tD xTz gN fN gA fA gK gL zZ lZ fW lP ++ cMod Y u mM tk) := D_perm hD pw_0_3.symm
  refine lv_aload_n hx hb dL_law_177 rfl (lv_at hl 1 rfl) ?_
  refine lv_aload_n hx hb dL_law_178 rfl (lv_at hl 3 rfl) ?_
  refine lv_iload_n hx hb dL_law_179 rfl (lv_at hl 0 rfl) ?_
  refine lv_iconst (v := (1 : Int32)) hx hb dL_law_180 (by decide) ?_
  refine lv_iadd hx hb dL_law_181 ?_
  refine va_sld hx hb hX hbl hbA hS h1 dL_law_182 ?_
  refine lv_i2l hx hb dL_law_183 rfl ?_
  refine lv_bipush (v := (32 : Int32)) hx hb dL_law_184 (by decide) ?_
  refine lv_lshl hx hb dL_law_186 rfl ?_
  refine lv_aload_n hx hb dL_law_187 rfl (lv_at hl 3 rfl) ?_
  refine lv_iload_n hx hb dL_law_188 rfl (lv_at hl 0 rfl) ?_
  refine lv_iconst (v := (2 : Int32)) hx hb dL_law_189 (by decide) ?_
  refine lv_iadd hx hb dL_law_190 ?_
  refine va_sld hx hb hX hbl hbA hS h2 dL_law_191 ?_
  refine lv_i2l hx hb dL_law_192 rfl ?_
  refine lv_ldc2 (v := (4294967295 : Int64)) hx hb hown (hts (.constantLong RL 13 (4294967295)) (lwC_in _ (List.mem_of_getElem? (i := 0) rfl) _ (List.mem_of_getElem? (i := 6) rfl))) dL_law_193 ?_
  refine lv_land hx hb dL_law_196 ?_
  refine lv_lor hx hb dL_law_197 ?_
  refine lv_aload_n hx hb dL_law_198 rfl (lv_at hl 3 rfl) ?_
  refine lv_iload_n hx hb dL_law_199 rfl (lv_at hl 0 rfl) ?_
  refine lv_iconst (v := (3 : Int32)) hx hb dL_law_200 (by decide) ?_
  refine lv_iadd hx hb dL_law_201 ?_
  refine va_sld hx hb hX hbl hbA hS h3 dL_law_202 ?_
  replace hP := P_perm hP List.perm_append_comm
  replace hD := D_perm hD List.perm_append_comm
  refine cl_w (wr := wX Y v nS tT tD xTz gN fN gA fA gK gL zZ lZ fW lP) (va_runV (As := [.long (((xs (x + 1).toNatClampNeg).toInt64 <<< ((32 : Int32).toInt64 &&& 63)) ||| ((xs (x + 2).toNatClampNeg).toInt64 &&& (4294967295 : Int64))), .int (xs (x + 3).toNatClampNeg)]) (rest := [.int r]) ⟨hx, hb, hml, hown, hts⟩ (ctX5_write l D Y u H.size mM tk (((xs (x + 1).toNatClampNeg).toInt64 <<< ((32 : Int32).toInt64 &&& 63)) ||| ((xs (x + 2).toNatClampNeg).toInt64 &&& (4294967295 : Int64))) (xs (x + 3).toNatClampNeg) r mMz e2) (cwV 2 hts gL_law_X5_write rfl rfl rfl (by decide +kernel) ⟨Nat.le_of_ble_eq_true rfl, Nat.le_of_ble_eq_true rfl⟩) (pcW_FV hK hP hD rfl) rfl rfl hl.1 rfl (lv_room (Nat.le_of_ble_eq_true rfl)) dL_law_203 ⟨Nat.le_of_ble_eq_true rfl, Nat.le_of_ble_eq_true rfl⟩) hP hD hS hA rfl (fun H locs hP hD hS => ?_)
  refine lv_icmp_eq (tgt := 923) hx hb dL_law_206 (by decide) (fun _ => kk _ _ ⟨nS, tT, tD, xTz, gN, fN, gA, fA, gK, gL, zZ, lZ, fW, lP, mMz, tk, hI, P_perm hP List.perm_append_comm, D_perm hD List.perm_append_comm, hS⟩) (fun z => absurd rfl z)
set_option maxHeartbeats 4000000 in
set_option maxRecDepth 100000 in
theorem lc_erase {p : Program} {l : Launch} {e : Env} {s : State} {m : MethodId} {below : List Frame} {meth : Method} {c : Code} {Q : State → Prop} {D : va_G} {Y : Nat → ClassId} {v : Nat → Nat → Nat} {u : Nat → Nat} {adK adV : Nat → Nat} {b L : Nat} {xs : Nat → Int32}
    (S : LwS p s m c b L xs D Y adK adV) {x : Int32} (h1 : vp_in (x + 1) L) (h2 : vp_in (x + 2) L) (h3 : vp_in (x + 3) L) (h4 : vp_in (x + 4) L) {H : Heap} {locs : List Loc} (hW : Wd D Y v u s H locs) {ls : Array Slot} (hl : lv_has ls 4 [(3, .int x), (2, .ref (u 0)), (1, .ref (v 0 0)), (0, .ref b)])
    (kk : ∀ (H1 : Heap) (locs1 : List Loc), Wd D Y v u s H1 locs1 → W p l e room_1 s m #[Value.ref b] below meth c H1 locs1 600000 7302250 Q (F0 m 923 ls [])) : W p l e room_1 s m #[Value.ref b] below meth c H locs 600000 7302250 Q (F0 m 211 ls []) := by
  obtain ⟨hx, hb, hml, hown, hts, hX, hbl, hK, hNf, hNm, hE⟩ := S
  obtain ⟨nS, tT, tD, xT, gN, fN, gA, fA, gK, gL, zZ, lZ, fW, lP, mM, tk, hI, hP, hD, hS⟩ := hW
  have hA : ∀ q : Nat, s.heap.size ≤ q → (fun q : Nat => s.heap.size ≤ q) q := fun _ h => h
  have hbA : ¬ (fun q : Nat => s.heap.size ≤ q) b := Nat.not_le.mpr hbl
  obtain ⟨r, xTz, mMz, e1, e2, hI⟩ := v_erase hI
  refine lv_aload_n hx hb dL_law_211 rfl (lv_at hl 2 rfl) ?_
  replace hP := P_perm hP pw_0_3
  replace hD := D_perm hD pw_0_3
  refine cl_w (wr := cTold Y (v 1) tT ++ cTold Y (v 2) tD ++ cStand Y (v 4) (v 1 0) (v 4 3) gN ++ cRow Y (v 4 3) 8 fN ++ cStand Y (v 5) (v 1 0) (v 5 3) gA ++ cRow Y (v 5 3) 8 fA ++ cStand Y (v 6) (v 1 0) (v 6 3) gK ++ cStand Y (v 7) (v 1 0) (v 7 3) gL ++ cSearch Y (v 8) (v 5 0) zZ lZ ++ cRow Y (v 9 0) 8 fW ++ cLong Y (v 9 1) 501 lP ++ cMod Y u mM tk) (va_runV (As := []) (rest := []) ⟨hx, hb, hml, hown, hts⟩ (ctX4_erase l D Y (v 0) (v 3) (v 1 0) (v 2 0) (v 4 0) (v 5 0) (v 8 0) (v 9 0) (v 9 1) (v 6 0) (v 7 0) H.size nS xT r xTz e1) (cwV 0 hts gL_law_X4_erase rfl rfl rfl (by decide +kernel) ⟨Nat.le_of_ble_eq_true rfl, Nat.le_of_ble_eq_true rfl⟩) (pcW_FV hK hP hD rfl) rfl rfl hl.1 rfl (lv_room (Nat.le_of_ble_eq_true rfl)) dL_law_212 ⟨Nat.le_of_ble_eq_true rfl, Nat.le_of_ble_eq_true rfl⟩) hP hD hS hA rfl (fun H locs hP hD hS => ?_)
  have hP : va_P D vwCl (wX Y v nS tT tD xTz gN fN gA fA gK gL zZ lZ fW lP ++ cMod Y u mM tk) H := P_perm hP pw_0_3.symm
  have hD : va_D (fun q : Nat => s.heap.size ≤ q) (wX Y v nS tT tD xTz gN fN gA fA gK gL zZ lZ fW lP ++ cMod Y u mM tk) := D_perm hD pw_0_3.symm
  refine lv_aload_n hx hb dL_law_215 rfl (lv_at hl 1 rfl) ?_
  replace hP := P_perm hP List.perm_append_comm
  replace hD := D_perm hD List.perm_append_comm
  refine cl_w (wr := wX Y v nS tT tD xTz gN fN gA fA gK gL zZ lZ fW lP) (va_runV (As := []) (rest := [.int r]) ⟨hx, hb, hml, hown, hts⟩ (ctX5_erase l D Y u H.size mM tk r mMz e2) (cwV 0 hts gL_law_X5_erase rfl rfl rfl (by decide +kernel) ⟨Nat.le_of_ble_eq_true rfl, Nat.le_of_ble_eq_true rfl⟩) (pcW_FV hK hP hD rfl) rfl rfl hl.1 rfl (lv_room (Nat.le_of_ble_eq_true rfl)) dL_law_216 ⟨Nat.le_of_ble_eq_true rfl, Nat.le_of_ble_eq_true rfl⟩) hP hD hS hA rfl (fun H locs hP hD hS => ?_)
  refine lv_icmp_eq (tgt := 923) hx hb dL_law_219 (by decide) (fun _ => kk _ _ ⟨nS, tT, tD, xTz, gN, fN, gA, fA, gK, gL, zZ, lZ, fW, lP, mMz, tk, hI, P_perm hP List.perm_append_comm, D_perm hD List.perm_append_comm, hS⟩) (fun z => absurd rfl z)
set_option maxHeartbeats 4000000 in
set_option maxRecDepth 100000 in
theorem lc_fault {p : Program} {l : Launch} {e : Env} {s : State} {m : MethodId} {below : List Frame} {meth : Method} {c : Code} {Q : State → Prop} {D : va_G} {Y : Nat → ClassId} {v : Nat → Nat → Nat} {u : Nat → Nat} {adK adV : Nat → Nat} {b L : Nat} {xs : Nat → Int32}
    (S : LwS p s m c b L xs D Y adK adV) {x : Int32} (h1 : vp_in (x + 1) L) (h2 : vp_in (x + 2) L) (h3 : vp_in (x + 3) L) (h4 : vp_in (x + 4) L) {H : Heap} {locs : List Loc} (hW : Wd D Y v u s H locs) {ls : Array Slot} (hl : lv_has ls 4 [(3, .int x), (2, .ref (u 0)), (1, .ref (v 0 0)), (0, .ref b)])
    (kk : ∀ (H1 : Heap) (locs1 : List Loc), Wd D Y v u s H1 locs1 → W p l e room_1 s m #[Value.ref b] below meth c H1 locs1 600000 7302250 Q (F0 m 923 ls [])) : W p l e room_1 s m #[Value.ref b] below meth c H locs 600000 7302250 Q (F0 m 224 ls []) := by
  obtain ⟨hx, hb, hml, hown, hts, hX, hbl, hK, hNf, hNm, hE⟩ := S
  obtain ⟨nS, tT, tD, xT, gN, fN, gA, fA, gK, gL, zZ, lZ, fW, lP, mM, tk, hI, hP, hD, hS⟩ := hW
  have hA : ∀ q : Nat, s.heap.size ≤ q → (fun q : Nat => s.heap.size ≤ q) q := fun _ h => h
  have hbA : ¬ (fun q : Nat => s.heap.size ≤ q) b := Nat.not_le.mpr hbl
  obtain ⟨r, tDz, xTz, mMz, tkz, e1, e2, hI⟩ := v_fault hI tD tk
  refine lv_aload_n hx hb dL_law_224 rfl (lv_at hl 2 rfl) ?_
  replace hP := P_perm hP pw_0_1_2_3
  replace hD := D_perm hD pw_0_1_2_3
  refine cl_w (wr := cStand Y (v 4) (v 1 0) (v 4 3) gN ++ cRow Y (v 4 3) 8 fN ++ cStand Y (v 5) (v 1 0) (v 5 3) gA ++ cRow Y (v 5 3) 8 fA ++ cStand Y (v 6) (v 1 0) (v 6 3) gK ++ cStand Y (v 7) (v 1 0) (v 7 3) gL ++ cSearch Y (v 8) (v 5 0) zZ lZ ++ cRow Y (v 9 0) 8 fW ++ cLong Y (v 9 1) 501 lP ++ cMod Y u mM tk) (va_runV (As := []) (rest := []) ⟨hx, hb, hml, hown, hts⟩ (ctX4_fault l D Y (v 0) (v 1) (v 2) (v 3) (v 4 0) (v 5 0) (v 8 0) (v 9 0) (v 9 1) (v 6 0) (v 7 0) adK adV H.size nS tT tD xT r tDz xTz e1) (cwV 0 hts gL_law_X4_fault rfl rfl rfl (by decide +kernel) ⟨Nat.le_of_ble_eq_true rfl, Nat.le_of_ble_eq_true rfl⟩) (pcE_V (fun U g mk a h => sAll_blind U g mk a h) (fun U hU hWm => sAll_go hE hS (lw_B hD hS) hU hWm) (pcW_FV hK hP hD rfl)) rfl rfl hl.1 rfl (lv_room (Nat.le_of_ble_eq_true rfl)) dL_law_225 ⟨Nat.le_of_ble_eq_true rfl, Nat.le_of_ble_eq_true rfl⟩) hP hD hS hA rfl (fun H locs hP hD hS => ?_)
  have hP : va_P D vwCl (wX Y v nS tT tDz xTz gN fN gA fA gK gL zZ lZ fW lP ++ cMod Y u mM tk) H := P_perm hP pw_0_1_2_3.symm
  have hD : va_D (fun q : Nat => s.heap.size ≤ q) (wX Y v nS tT tDz xTz gN fN gA fA gK gL zZ lZ fW lP ++ cMod Y u mM tk) := D_perm hD pw_0_1_2_3.symm
  refine lv_aload_n hx hb dL_law_228 rfl (lv_at hl 1 rfl) ?_
  replace hP := P_perm hP List.perm_append_comm
  replace hD := D_perm hD List.perm_append_comm
  refine cl_w (wr := wX Y v nS tT tDz xTz gN fN gA fA gK gL zZ lZ fW lP) (va_runV (As := []) (rest := [.int r]) ⟨hx, hb, hml, hown, hts⟩ (ctX5_fault l D Y u H.size mM tk r mMz tkz e2) (cwV 0 hts gL_law_X5_fault rfl rfl rfl (by decide +kernel) ⟨Nat.le_of_ble_eq_true rfl, Nat.le_of_ble_eq_true rfl⟩) (pcW_FV hK hP hD rfl) rfl rfl hl.1 rfl (lv_room (Nat.le_of_ble_eq_true rfl)) dL_law_229 ⟨Nat.le_of_ble_eq_true rfl, Nat.le_of_ble_eq_true rfl⟩) hP hD hS hA rfl (fun H locs hP hD hS => ?_)
  refine lv_icmp_eq (tgt := 923) hx hb dL_law_232 (by decide) (fun _ => kk _ _ ⟨nS, tT, tDz, xTz, gN, fN, gA, fA, gK, gL, zZ, lZ, fW, lP, mMz, tkz, hI, P_perm hP List.perm_append_comm, D_perm hD List.perm_append_comm, hS⟩) (fun z => absurd rfl z)
set_option maxHeartbeats 4000000 in
set_option maxRecDepth 100000 in
theorem lc_green {p : Program} {l : Launch} {e : Env} {s : State} {m : MethodId} {below : List Frame} {meth : Method} {c : Code} {Q : State → Prop} {D : va_G} {Y : Nat → ClassId} {v : Nat → Nat → Nat} {u : Nat → Nat} {adK adV : Nat → Nat} {b L : Nat} {xs : Nat → Int32}
    (S : LwS p s m c b L xs D Y adK adV) {x : Int32} (h1 : vp_in (x + 1) L) (h2 : vp_in (x + 2) L) (h3 : vp_in (x + 3) L) (h4 : vp_in (x + 4) L) {H : Heap} {locs : List Loc} (hW : Wd D Y v u s H locs) {ls : Array Slot} (hl : lv_has ls 4 [(3, .int x), (2, .ref (u 0)), (1, .ref (v 0 0)), (0, .ref b)])
    (kk : ∀ (H1 : Heap) (locs1 : List Loc), Wd D Y v u s H1 locs1 → W p l e room_1 s m #[Value.ref b] below meth c H1 locs1 600000 7302250 Q (F0 m 923 ls [])) : W p l e room_1 s m #[Value.ref b] below meth c H locs 600000 7302250 Q (F0 m 237 ls []) := by
  obtain ⟨hx, hb, hml, hown, hts, hX, hbl, hK, hNf, hNm, hE⟩ := S
  obtain ⟨nS, tT, tD, xT, gN, fN, gA, fA, gK, gL, zZ, lZ, fW, lP, mM, tk, hI, hP, hD, hS⟩ := hW
  have hA : ∀ q : Nat, s.heap.size ≤ q → (fun q : Nat => s.heap.size ≤ q) q := fun _ h => h
  have hbA : ¬ (fun q : Nat => s.heap.size ≤ q) b := Nat.not_le.mpr hbl
  obtain ⟨r, nSz, tTz, tDz, xTz, gNz, mMz, tkz, e1, e2, hI⟩ := v_green hI tD tk
  refine lv_aload_n hx hb dL_law_237 rfl (lv_at hl 2 rfl) ?_
  replace hP := P_perm hP pw_0_1_2_3_4
  replace hD := D_perm hD pw_0_1_2_3_4
  refine cl_w (wr := cRow Y (v 4 3) 8 fN ++ cStand Y (v 5) (v 1 0) (v 5 3) gA ++ cRow Y (v 5 3) 8 fA ++ cStand Y (v 6) (v 1 0) (v 6 3) gK ++ cStand Y (v 7) (v 1 0) (v 7 3) gL ++ cSearch Y (v 8) (v 5 0) zZ lZ ++ cRow Y (v 9 0) 8 fW ++ cLong Y (v 9 1) 501 lP ++ cMod Y u mM tk) (va_runV (As := []) (rest := []) ⟨hx, hb, hml, hown, hts⟩ (ctX4_green l D Y (v 0) (v 1) (v 2) (v 3) (v 4) (v 5 0) (v 8 0) (v 9 0) (v 9 1) (v 6 0) (v 7 0) (v 4 3) adK adV H.size nS tT tD xT gN r nSz tTz tDz xTz gNz e1) (cwV 0 hts gL_law_X4_green rfl rfl rfl (by decide +kernel) ⟨Nat.le_of_ble_eq_true rfl, Nat.le_of_ble_eq_true rfl⟩) (pcE_V (fun U g mk a h => sAll_blind U g mk a h) (fun U hU hWm => sAll_go hE hS (lw_B hD hS) hU hWm) (pcW_FV hK hP hD rfl)) rfl rfl hl.1 rfl (lv_room (Nat.le_of_ble_eq_true rfl)) dL_law_238 ⟨Nat.le_of_ble_eq_true rfl, Nat.le_of_ble_eq_true rfl⟩) hP hD hS hA rfl (fun H locs hP hD hS => ?_)
  have hP : va_P D vwCl (wX Y v nSz tTz tDz xTz gNz fN gA fA gK gL zZ lZ fW lP ++ cMod Y u mM tk) H := P_perm hP pw_0_1_2_3_4.symm
  have hD : va_D (fun q : Nat => s.heap.size ≤ q) (wX Y v nSz tTz tDz xTz gNz fN gA fA gK gL zZ lZ fW lP ++ cMod Y u mM tk) := D_perm hD pw_0_1_2_3_4.symm
  refine lv_aload_n hx hb dL_law_241 rfl (lv_at hl 1 rfl) ?_
  replace hP := P_perm hP List.perm_append_comm
  replace hD := D_perm hD List.perm_append_comm
  refine cl_w (wr := wX Y v nSz tTz tDz xTz gNz fN gA fA gK gL zZ lZ fW lP) (va_runV (As := []) (rest := [.int r]) ⟨hx, hb, hml, hown, hts⟩ (ctX5_green l D Y u H.size mM tk r mMz tkz e2) (cwV 0 hts gL_law_X5_green rfl rfl rfl (by decide +kernel) ⟨Nat.le_of_ble_eq_true rfl, Nat.le_of_ble_eq_true rfl⟩) (pcW_FV hK hP hD rfl) rfl rfl hl.1 rfl (lv_room (Nat.le_of_ble_eq_true rfl)) dL_law_242 ⟨Nat.le_of_ble_eq_true rfl, Nat.le_of_ble_eq_true rfl⟩) hP hD hS hA rfl (fun H locs hP hD hS => ?_)
  refine lv_icmp_eq (tgt := 923) hx hb dL_law_245 (by decide) (fun _ => kk _ _ ⟨nSz, tTz, tDz, xTz, gNz, fN, gA, fA, gK, gL, zZ, lZ, fW, lP, mMz, tkz, hI, P_perm hP List.perm_append_comm, D_perm hD List.perm_append_comm, hS⟩) (fun z => absurd rfl z)
set_option maxHeartbeats 4000000 in
set_option maxRecDepth 100000 in
theorem lc_plot {p : Program} {l : Launch} {e : Env} {s : State} {m : MethodId} {below : List Frame} {meth : Method} {c : Code} {Q : State → Prop} {D : va_G} {Y : Nat → ClassId} {v : Nat → Nat → Nat} {u : Nat → Nat} {adK adV : Nat → Nat} {b L : Nat} {xs : Nat → Int32}
    (S : LwS p s m c b L xs D Y adK adV) {x : Int32} (h1 : vp_in (x + 1) L) (h2 : vp_in (x + 2) L) (h3 : vp_in (x + 3) L) (h4 : vp_in (x + 4) L) {H : Heap} {locs : List Loc} (hW : Wd D Y v u s H locs) {ls : Array Slot} (hl : lv_has ls 4 [(3, .int x), (2, .ref (u 0)), (1, .ref (v 0 0)), (0, .ref b)])
    (kk : ∀ (H1 : Heap) (locs1 : List Loc), Wd D Y v u s H1 locs1 → W p l e room_1 s m #[Value.ref b] below meth c H1 locs1 600000 7302250 Q (F0 m 923 ls [])) : W p l e room_1 s m #[Value.ref b] below meth c H locs 600000 7302250 Q (F0 m 250 ls []) := by
  obtain ⟨hx, hb, hml, hown, hts, hX, hbl, hK, hNf, hNm, hE⟩ := S
  obtain ⟨nS, tT, tD, xT, gN, fN, gA, fA, gK, gL, zZ, lZ, fW, lP, mM, tk, hI, hP, hD, hS⟩ := hW
  have hA : ∀ q : Nat, s.heap.size ≤ q → (fun q : Nat => s.heap.size ≤ q) q := fun _ h => h
  have hbA : ¬ (fun q : Nat => s.heap.size ≤ q) b := Nat.not_le.mpr hbl
  obtain ⟨r, e1, e2⟩ := v_plot hI (xs (x + 1).toNatClampNeg) (xs (x + 2).toNatClampNeg)
  refine lv_aload_n hx hb dL_law_250 rfl (lv_at hl 2 rfl) ?_
  refine lv_aload_n hx hb dL_law_251 rfl (lv_at hl 3 rfl) ?_
  refine lv_iload_n hx hb dL_law_252 rfl (lv_at hl 0 rfl) ?_
  refine lv_iconst (v := (1 : Int32)) hx hb dL_law_253 (by decide) ?_
  refine lv_iadd hx hb dL_law_254 ?_
  refine va_sld hx hb hX hbl hbA hS h1 dL_law_255 ?_
  refine lv_aload_n hx hb dL_law_256 rfl (lv_at hl 3 rfl) ?_
  refine lv_iload_n hx hb dL_law_257 rfl (lv_at hl 0 rfl) ?_
  refine lv_iconst (v := (2 : Int32)) hx hb dL_law_258 (by decide) ?_
  refine lv_iadd hx hb dL_law_259 ?_
  refine va_sld hx hb hX hbl hbA hS h2 dL_law_260 ?_
  replace hP := P_perm hP pw_0_1_4
  replace hD := D_perm hD pw_0_1_4
  refine cl_w (wr := cTold Y (v 2) tD ++ cText Y (v 3) xT ++ cRow Y (v 4 3) 8 fN ++ cStand Y (v 5) (v 1 0) (v 5 3) gA ++ cRow Y (v 5 3) 8 fA ++ cStand Y (v 6) (v 1 0) (v 6 3) gK ++ cStand Y (v 7) (v 1 0) (v 7 3) gL ++ cSearch Y (v 8) (v 5 0) zZ lZ ++ cRow Y (v 9 0) 8 fW ++ cLong Y (v 9 1) 501 lP ++ cMod Y u mM tk) (va_runV (As := [.int (xs (x + 1).toNatClampNeg), .int (xs (x + 2).toNatClampNeg)]) (rest := []) ⟨hx, hb, hml, hown, hts⟩ (ctX4_plot l D Y (v 0) (v 1) (v 4) (v 2 0) (v 3 0) (v 5 0) (v 8 0) (v 9 0) (v 9 1) (v 6 0) (v 7 0) (v 4 3) H.size nS tT gN (xs (x + 1).toNatClampNeg) (xs (x + 2).toNatClampNeg) r e1) (cwV 2 hts gL_law_X4_plot rfl rfl rfl (by decide +kernel) ⟨Nat.le_of_ble_eq_true rfl, Nat.le_of_ble_eq_true rfl⟩) (pcW_FV hK hP hD rfl) rfl rfl hl.1 rfl (lv_room (Nat.le_of_ble_eq_true rfl)) dL_law_261 ⟨Nat.le_of_ble_eq_true rfl, Nat.le_of_ble_eq_true rfl⟩) hP hD hS hA rfl (fun H locs hP hD hS => ?_)
  have hP : va_P D vwCl (wX Y v nS tT tD xT gN fN gA fA gK gL zZ lZ fW lP ++ cMod Y u mM tk) H := P_perm hP pw_0_1_4.symm
  have hD : va_D (fun q : Nat => s.heap.size ≤ q) (wX Y v nS tT tD xT gN fN gA fA gK gL zZ lZ fW lP ++ cMod Y u mM tk) := D_perm hD pw_0_1_4.symm
  refine lv_aload_n hx hb dL_law_264 rfl (lv_at hl 1 rfl) ?_
  refine lv_aload_n hx hb dL_law_265 rfl (lv_at hl 3 rfl) ?_
  refine lv_iload_n hx hb dL_law_266 rfl (lv_at hl 0 rfl) ?_
  refine lv_iconst (v := (1 : Int32)) hx hb dL_law_267 (by decide) ?_
  refine lv_iadd hx hb dL_law_268 ?_
  refine va_sld hx hb hX hbl hbA hS h1 dL_law_269 ?_
  refine lv_aload_n hx hb dL_law_270 rfl (lv_at hl 3 rfl) ?_
  refine lv_iload_n hx hb dL_law_271 rfl (lv_at hl 0 rfl) ?_
  refine lv_iconst (v := (2 : Int32)) hx hb dL_law_272 (by decide) ?_
  refine lv_iadd hx hb dL_law_273 ?_
  refine va_sld hx hb hX hbl hbA hS h2 dL_law_274 ?_
  replace hP := P_perm hP List.perm_append_comm
  replace hD := D_perm hD List.perm_append_comm
  refine cl_w (wr := wX Y v nS tT tD xT gN fN gA fA gK gL zZ lZ fW lP) (va_runV (As := [.int (xs (x + 1).toNatClampNeg), .int (xs (x + 2).toNatClampNeg)]) (rest := [.int r]) ⟨hx, hb, hml, hown, hts⟩ (ctX5_plot l D Y u H.size mM tk (xs (x + 1).toNatClampNeg) (xs (x + 2).toNatClampNeg) r e2) (cwV 2 hts gL_law_X5_plot rfl rfl rfl (by decide +kernel) ⟨Nat.le_of_ble_eq_true rfl, Nat.le_of_ble_eq_true rfl⟩) (pcW_FV hK hP hD rfl) rfl rfl hl.1 rfl (lv_room (Nat.le_of_ble_eq_true rfl)) dL_law_275 ⟨Nat.le_of_ble_eq_true rfl, Nat.le_of_ble_eq_true rfl⟩) hP hD hS hA rfl (fun H locs hP hD hS => ?_)
  refine lv_icmp_eq (tgt := 923) hx hb dL_law_278 (by decide) (fun _ => kk _ _ ⟨nS, tT, tD, xT, gN, fN, gA, fA, gK, gL, zZ, lZ, fW, lP, mM, tk, hI, P_perm hP List.perm_append_comm, D_perm hD List.perm_append_comm, hS⟩) (fun z => absurd rfl z)
