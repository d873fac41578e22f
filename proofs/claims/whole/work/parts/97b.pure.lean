/-! the law from its entry -/
section
variable {p : Program} {l : Launch} {e : Env} {R : Room} {s : State} {m : MethodId} {args : Array Value} {below : List Frame} {meth : Method} {c : Code} {H : Heap} {locs : List Loc} {cells slots : Nat} {Q : State → Prop}
variable {pc : Nat} {ls : Array Slot} {rest st0 : List Value} {A : Nat → Prop} {H0 : Heap} {D : va_G} {Y : Nat → ClassId} {ws : va_W} {a : Array Value} {mc ms : Nat}
theorem cx_v {w1 : (Nat → Nat → Nat) → va_W} {h0 : Nat} (hr : va_Run p l e R s m args below meth c H locs cells slots mc ms (F0 m pc ls st0) rest (qxW D w1 h0 (va_A ws H.size) a) (va_A ws H.size)) (hD : va_D A ws) (hS : va_S A H0 H locs) (hA : ∀ q, H0.size ≤ q → A q)
    (kk : ∀ (v : Nat → Nat → Nat) (H1 : Heap) (locs1 : List Loc), v 0 0 = h0 → va_P D vwCl (w1 v) H1 → va_D A (w1 v) → va_S A H0 H1 locs1 → W p l e R s m args below meth c H1 locs1 (cells + mc) (slots + ms) Q (F0 m (pc + 3) ls rest)) : W p l e R s m args below meth c H locs cells slots Q (F0 m pc ls st0) := by
  have hF := own_A hD hS hA
  refine va_callv hr hS (fun q _ h => hF q h) hF (fun u t H1 locs1 ht _ hu hB _ hk hS1 => ?_)
  obtain ⟨hB1, hB2⟩ := hB
  rw [ht] at hB1
  exact kk u H1 locs1 hu hB1 (D_iff.mpr ⟨(D_iff.mp hB2).1, fun q hq => hF _ ((D_iff.mp hB2).2 q hq)⟩) hS1
end
set_option maxHeartbeats 8000000 in
set_option maxRecDepth 100000 in
theorem whole_start {p : Program} {e : Env} {s : State} {m : MethodId} {below : List Frame} {meth : Method} {c : Code} (l : Launch) (_ : l.flags = flags0) {b L : Nat} {xs : Nat → Int32} (hL : L ≤ 2560) (C0 : lw_At p s m meth c b L xs) : W p l e room_1 s m #[Value.ref b] below meth c s.heap [] 0 0 (lw_Z below #[Value.ref b] s) (entryFrame m ([Value.ref b] : List Value).toArray 4) := by
  obtain ⟨hx, hb, hr, hml, hown, hts0, hX, hbl, hlocks, hgv⟩ := id C0
  have hb : c.code = cL_law := hb
  have hown : s.vm.findClass RL = some m.cls := hown
  have hts : ∀ w ∈ wsL_law, w.before #[Value.ref b] s = true := fun w h => hts0 w (wsL_law_in w h)
  have hf : ∀ w ∈ flN, w.before #[Value.ref b] s = true := flat_of_before _ hgv
  obtain ⟨adK, adV, hE⟩ := start_E hts0 hf
  obtain ⟨D, Y, hK⟩ := start_K hts0
  have hNf : va_Nw nfW s := va_Nw.of (by decide +kernel) (hts0 _ tb_nf)
  have hNm : va_Nw nmW s := va_Nw.of (by decide +kernel) (hts0 _ tb_nm)
  have hNt : va_Nw ntW s := va_Nw.of (by decide +kernel) (hts0 _ tb_nt)
  have hO1 : va_AO RX1 s := va_AO.of (hts0 _ tb_ao1)
  have hOI : va_AOI s := va_AOI.of (hts0 _ tb_aoi)
  have hA : ∀ q : Nat, s.heap.size ≤ q → (fun q : Nat => s.heap.size ≤ q) q := fun _ h => h
  have hS : va_S (fun q : Nat => s.heap.size ≤ q) s.heap s.heap [] := va_S.rf
  have hP : va_P D vwCl [] s.heap := fun k q h => by simp at h
  have hD : va_D (fun q : Nat => s.heap.size ≤ q) [] := ⟨fun i j p q h => by simp at h, fun k q h => by simp at h⟩
  have hl := lv_entry ([.ref b]) (n := 4) (Nat.le_of_ble_eq_true rfl)
  rw [lg_entry_eq]
  generalize (lg_sl ([.ref b]) ++ List.replicate (4 - (lg_sl ([.ref b])).length) Slot.unset).toArray = ls at hl ⊢
  have hl : lv_has ls 4 [(0, .ref b)] := hl
  obtain ⟨t1, g1, m1, m2, a1, b1, c1, d1, hI⟩ := v_begin
  refine va_new (ci := 4) (fs := [.null, .null, .null, .null, .null, .null, .null, .null, .null, .null, .null, .null, .null, .int 0]) (C := RX4) (T := TX4) (N := 14) hx hb hts inlX4 tyX4 tyX4_ok hown (hts (.classLink RL 7 RX4) (lwC_in _ (List.mem_of_getElem? (i := 0) rfl) _ (List.mem_of_getElem? (i := 0) rfl))) (hts (.instantiable RX4 14) (lwC_in _ (List.mem_of_getElem? (i := 0) rfl) _ (List.mem_of_getElem? (i := 1) rfl))) (hts (.initialized RX4) (lwC_in _ (List.mem_of_getElem? (i := 0) rfl) _ (List.mem_of_getElem? (i := 2) rfl))) hK hP hD hS hA rfl (lt_s (lt_s (lt_s (lt_s (lt_s (lt_s (lt_s (lt_s (lt_s (lt_s (lt_s (lt_s (lt_s (lt_s lt_0 rfl) rfl) rfl) rfl) rfl) rfl) rfl) rfl) rfl) rfl) rfl) rfl) rfl) rfl) (Nat.le_of_ble_eq_true rfl) (Nat.le_of_ble_eq_true rfl) dL_law_0 (fun q0 H hP hD hS => ?_)
  have hP : va_P D vwCl ([(q0, .inr (4, [.null, .null, .null, .null, .null, .null, .null, .null, .null, .null, .null, .null, .null, .int 0]))] : va_W) H := hP
  have hD : va_D (fun q : Nat => s.heap.size ≤ q) ([(q0, .inr (4, [.null, .null, .null, .null, .null, .null, .null, .null, .null, .null, .null, .null, .null, .int 0]))] : va_W) := hD
  refine lv_dup hx hb dL_law_3 rfl ?_
  refine cx_v (va_runI (As := []) (rest := [.ref q0]) ⟨hx, hb, hml, hown, hts⟩ (ctX4_init l D Y q0 H.size t1 g1 a1 b1) (cwI 0 hts gL_law_X4_init rfl rfl rfl (hts (.initialized RX4) (lwC_in _ (List.mem_of_getElem? (i := 0) rfl) _ (List.mem_of_getElem? (i := 2) rfl))) (hts (.methodLink RL 9 yX4_init) (lwC_in _ (List.mem_of_getElem? (i := 0) rfl) _ (List.mem_of_getElem? (i := 7) rfl))) (hts (.instanceMethod yX4_init) (lwC_in _ (List.mem_of_getElem? (i := 0) rfl) _ (List.mem_of_getElem? (i := 8) rfl))) rfl (by decide +kernel) ⟨Nat.le_of_ble_eq_true rfl, Nat.le_of_ble_eq_true rfl⟩) (pcB_S hNt hOI hO1 (pcW_S0 hK hP hD)) rfl rfl hl.1 rfl (lv_room (Nat.le_of_ble_eq_true rfl)) dL_law_4 ⟨Nat.le_of_ble_eq_true rfl, Nat.le_of_ble_eq_true rfl⟩) hD hS hA (fun v H locs hv hP hD hS => ?_)
  rw [← hv]
  refine lv_astore_n (lv' := [(1, .ref (v 0 0)), (0, .ref b)]) hx hb dL_law_7 rfl hl (by decide) rfl (fun ls hl => ?_)
  have hP : va_P D vwCl (wX Y v zg t1 t1 zg g1 (fun _ => 0) g1 (fun _ => 0) g1 g1 zg (fun _ => 0) (fun _ => 0) (fun _ => 0)) H := hP
  have hD : va_D (fun q : Nat => s.heap.size ≤ q) (wX Y v zg t1 t1 zg g1 (fun _ => 0) g1 (fun _ => 0) g1 g1 zg (fun _ => 0) (fun _ => 0) (fun _ => 0)) := hD
  refine va_new (ci := 5) (fs := [.int 0, .null, .int 0, .null, .null, .int 0, .null, .int 0, .null, .int 0, .int 0, .int 0, .null, .int 0, .int 0, .long 0, .int 0, .int 0, .int 0, .int 0, .int 0, .int 0, .int 0, .int 0, .int 0, .null, .null, .null, .null, .null, .int 0, .null, .int 0, .null, .int 0, .null, .null, .null, .null, .null]) (C := RX5) (T := TX5) (N := 40) hx hb hts inlX5 tyX5 tyX5_ok hown (hts (.classLink RL 10 RX5) (lwC_in _ (List.mem_of_getElem? (i := 0) rfl) _ (List.mem_of_getElem? (i := 3) rfl))) (hts (.instantiable RX5 40) (lwC_in _ (List.mem_of_getElem? (i := 0) rfl) _ (List.mem_of_getElem? (i := 4) rfl))) (hts (.initialized RX5) (lwC_in _ (List.mem_of_getElem? (i := 0) rfl) _ (List.mem_of_getElem? (i := 5) rfl))) hK hP hD hS hA rfl (lt_s (lt_s (lt_s (lt_s (lt_s (lt_s (lt_s (lt_s (lt_s (lt_s (lt_s (lt_s (lt_s (lt_s (lt_s (lt_s (lt_s (lt_s (lt_s (lt_s (lt_s (lt_s (lt_s (lt_s (lt_s (lt_s (lt_s (lt_s (lt_s (lt_s (lt_s (lt_s (lt_s (lt_s (lt_s (lt_s (lt_s (lt_s (lt_s (lt_s lt_0 rfl) rfl) rfl) rfl) rfl) rfl) rfl) rfl) rfl) rfl) rfl) rfl) rfl) rfl) rfl) rfl) rfl) rfl) rfl) rfl) rfl) rfl) rfl) rfl) rfl) rfl) rfl) rfl) rfl) rfl) rfl) rfl) rfl) rfl) rfl) rfl) rfl) rfl) rfl) rfl) (Nat.le_of_ble_eq_true rfl) (Nat.le_of_ble_eq_true rfl) dL_law_8 (fun q8 H hP hD hS => ?_)
  replace hP := P_perm hP List.perm_append_comm
  replace hD := D_perm hD List.perm_append_comm
  refine lv_dup hx hb dL_law_11 rfl ?_
  refine cn_w (wr := (wX Y v zg t1 t1 zg g1 (fun _ => 0) g1 (fun _ => 0) g1 g1 zg (fun _ => 0) (fun _ => 0) (fun _ => 0))) (va_runI (As := []) (rest := [.ref q8]) ⟨hx, hb, hml, hown, hts⟩ (ctX5_init l D Y q8 H.size m1 m2 c1 d1) (cwI 0 hts gL_law_X5_init rfl rfl rfl (hts (.initialized RX5) (lwC_in _ (List.mem_of_getElem? (i := 0) rfl) _ (List.mem_of_getElem? (i := 5) rfl))) (hts (.methodLink RL 12 yX5_init) (lwC_in _ (List.mem_of_getElem? (i := 4) rfl) _ (List.mem_of_getElem? (i := 12) rfl))) (hts (.instanceMethod yX5_init) (lwC_in _ (List.mem_of_getElem? (i := 4) rfl) _ (List.mem_of_getElem? (i := 13) rfl))) rfl (by decide +kernel) ⟨Nat.le_of_ble_eq_true rfl, Nat.le_of_ble_eq_true rfl⟩) (pcW_F hK hP hD) rfl rfl hl.1 rfl (lv_room (Nat.le_of_ble_eq_true rfl)) dL_law_12 ⟨Nat.le_of_ble_eq_true rfl, Nat.le_of_ble_eq_true rfl⟩) hP hD hS hA (fun u H locs hu hP hD hS => ?_)
  rw [← hu]
  refine lv_astore_n (lv' := [(2, .ref (u 0)), (1, .ref (v 0 0)), (0, .ref b)]) hx hb dL_law_15 rfl hl (by decide) rfl (fun ls hl => ?_)
  refine lv_iconst (v := (0 : Int32)) hx hb dL_law_16 (by decide) ?_
  refine lv_istore_n (lv' := [(3, .int (0 : Int32)), (2, .ref (u 0)), (1, .ref (v 0 0)), (0, .ref b)]) hx hb dL_law_17 rfl hl (by decide) rfl (fun ls hl => ?_)
  refine W.widen (k := 600000) (n := 7302250) (Nat.le_of_ble_eq_true rfl) (Nat.le_of_ble_eq_true rfl) ?_
  exact law_loop (adK := adK) (adV := adV) ⟨hx, hb, hml, hown, hts, hX, hbl, hK, hNf, hNm, hE⟩ hL hr hlocks (L + 1) 0 (Nat.zero_le _) (by omega) _ _ _ ⟨_, _, _, _, _, _, _, _, _, _, _, _, _, _, _, _, hI, hP, hD, hS⟩ (nI_0 ▸ hl)
