/-! THE CLAIM OUT OF ONE WALK OF THE LAW'S BODY. Your part is whole_start (and what it stands on); all else here is the same for every law, but numbers. -/
def R_law : String := "NightPlotsLaw"
def lw_P (b : Addr) (xs : List Int32) (args : Array Value) (s : State) : Prop := args = #[.ref b] ∧ s.IntsAt b xs ∧ xs.length ≤ 2560 ∧ (Jvm.Cond.and given_1 narrow_1).before args s = true
def lw_Q (_ : Array Value) (s : State) (o : Outcome) (t : State) : Prop := o = .returned (some (.int 1)) ∧ Framed s o t [] 600000 7302250
def lw_Z (below : List Frame) (a : Array Value) (s : State) : State → Prop := fun t => ∃ o, t.status = .running ∧ Ended t below o ∧ lw_Q a s o t
/-- the law's own end, with 1 on the stack, nothing written that was there before, its room as the claim has it -/
theorem lw_ret {p : Program} {l : Launch} {e : Env} {s : State} {m : MethodId} {below : List Frame} {meth : Method} {c : Code} {b : Nat} (hx : p.tables.exec = Jvm.exec) (hb : c.code = code) (hr : meth.sig.returnType = ret) (hlocks : meth.locks = false) {pc : Nat} {H : Heap} {ls : Array Slot} (hdg : decode code pc = .ok (.ireturn, 1)) : W p l e room_1 s m #[Value.ref b] below meth c H [] 600000 7302250 (lw_Z below #[Value.ref b] s) (F0 m pc ls [.int 1]) := by
  intro T hT X
  obtain ⟨fs, hret, hrun, hended, hW, hframe⟩ := X.leave (v := some (.int 1)) (hlocks := hlocks) (fun h => by rw [hr] at h; cases h)
  have hmeth' : T.vm.method? m = some meth := X.method'
  refine ⟨T.setFrames fs, ?_, .returned (some (.int 1)), hrun, hended, rfl, ⟨_, rfl⟩, hW, hframe⟩
  jvm_step X.here [X.here.top, hx, hb, hdg, hmeth', hr, ret, narrow_b1]
  (try refine ⟨rfl, ?_⟩); (try refine ⟨rfl, ?_⟩)
  first | (intro acts; rw [hret _ acts rfl rfl rfl]) | rw [hret _ _ rfl rfl rfl]
  exact Steps.refl _
/-- what holds at the law's entry: the machine, the code, the tables' words (any of lw_tbl by 'hts w (by decide +kernel)'), the script of L ints xs at the cell b, what the Statement gives of the start (any of its parts by flat_of_before) -/
def lw_At (p : Program) (s : State) (m : MethodId) (meth : Method) (c : Code) (b L : Nat) (xs : Nat → Int32) : Prop :=
  p.tables.exec = Jvm.exec ∧ c.code = code ∧ meth.sig.returnType = ret ∧ c.maxLocals = 4 ∧ s.vm.findClass R_law = some m.cls ∧ (∀ w ∈ lw_tbl, w.before #[Value.ref b] s = true) ∧ va_X b L xs s s.heap ∧ b < s.heap.size ∧ meth.locks = false ∧ (Jvm.Cond.and given_1 narrow_1).before #[Value.ref b] s = true
/-! the law's loop -/
theorem lw_lt {i L : Nat} (hL : L ≤ 2560) (hi : i ≤ 2565) (h : ¬ Int32.ofNat L - 5 < nI i) : i + 5 ≤ L := by
  rcases Nat.lt_or_ge L 5 with c | c
  · refine absurd ?_ h
    have h5 : (Int32.ofNat L - 5).toInt < 0 := by
      rcases (show L = 0 ∨ L = 1 ∨ L = 2 ∨ L = 3 ∨ L = 4 by omega) with rfl | rfl | rfl | rfl | rfl <;> decide
    rw [Int32.lt_iff_toInt_lt, nI_toInt (by omega)]
    omega
  · have e : Int32.ofNat L - 5 = nI (L - 5) := subn (a := L) (b := 5) c
    rw [e, nI_ltI (by omega) (by omega)] at h
    omega
theorem lw_tb {y : Int32} (h : ¬ (y.toInt < 0 ∨ 24 < y.toInt)) : y.toInt = 0 ∨ y.toInt = 1 ∨ y.toInt = 2 ∨ y.toInt = 3 ∨ y.toInt = 4 ∨ y.toInt = 5 ∨ y.toInt = 6 ∨ y.toInt = 7 ∨ y.toInt = 8 ∨ y.toInt = 9 ∨ y.toInt = 10 ∨ y.toInt = 11 ∨ y.toInt = 12 ∨ y.toInt = 13 ∨ y.toInt = 14 ∨ y.toInt = 15 ∨ y.toInt = 16 ∨ y.toInt = 17 ∨ y.toInt = 18 ∨ y.toInt = 19 ∨ y.toInt = 20 ∨ y.toInt = 21 ∨ y.toInt = 22 ∨ y.toInt = 23 ∨ y.toInt = 24 := by omega
set_option maxHeartbeats 8000000 in
set_option maxRecDepth 100000 in
theorem lw_body {p : Program} {l : Launch} {e : Env} {s : State} {m : MethodId} {below : List Frame} {meth : Method} {c : Code} {D : va_G} {Y : Nat → ClassId} {v : Nat → Nat → Nat} {u : Nat → Nat} {adK adV : Nat → Nat} {b L : Nat} {xs : Nat → Int32}
    (S : LwS p s m c b L xs D Y adK adV) (hL : L ≤ 2560) (hr : meth.sig.returnType = ret) (hlocks : meth.locks = false) {i : Nat} (hi : i ≤ 2565) {H : Heap} {locs : List Loc} (hW : Wd D Y v u s H locs) {ls : Array Slot} (hl : lv_has ls 4 [(3, .int (nI i)), (2, .ref (u 0)), (1, .ref (v 0 0)), (0, .ref b)])
    (rec : i + 5 ≤ L → ∀ (H : Heap) (locs : List Loc) (ls : Array Slot), Wd D Y v u s H locs → lv_has ls 4 [(3, .int (nI (i + 5))), (2, .ref (u 0)), (1, .ref (v 0 0)), (0, .ref b)] → W p l e room_1 s m #[Value.ref b] below meth c H locs 600000 7302250 (lw_Z below #[Value.ref b] s) (F0 m 18 ls [])) : W p l e room_1 s m #[Value.ref b] below meth c H locs 600000 7302250 (lw_Z below #[Value.ref b] s) (F0 m 18 ls []) := by
  obtain ⟨hx, hb, hml, hown, hts, hX, hbl, hK, hNf, hNm, hE⟩ := id S
  have hA : ∀ q : Nat, s.heap.size ≤ q → (fun q : Nat => s.heap.size ≤ q) q := fun _ h => h
  have hbA : ¬ (fun q : Nat => s.heap.size ≤ q) b := Nat.not_le.mpr hbl
  have hS : va_S (fun q : Nat => s.heap.size ≤ q) s.heap H locs := by
    obtain ⟨nS, tT, tD, xT, gN, fN, gA, fA, gK, gL, zZ, lZ, fW, lP, mM, tk, hI, hP, hD, hS⟩ := hW
    exact hS
  refine lv_iload_n hx hb dL_law_18 rfl (lv_at hl 0 rfl) ?_
  refine lv_aload_n hx hb dL_law_19 rfl (lv_at hl 3 rfl) ?_
  refine va_slen hx hb hX hbl hbA hS dL_law_20 ?_
  refine lv_iconst (v := (5 : Int32)) hx hb dL_law_21 (by decide) ?_
  refine lv_isub hx hb dL_law_22 ?_
  refine lv_icmp_gt (tgt := 929) hx hb dL_law_23 (by decide) (fun _ => ?_) (fun c23 => ?_)
  · refine lv_iconst (v := (1 : Int32)) hx hb dL_law_929 (by decide) ?_
    refine va_forget (fun q hq => hS.2.2 q hq) ?_
    exact lw_ret hx hb hr hlocks dL_law_930
  have hiL : i + 5 ≤ L := lw_lt hL hi c23
  have h0 : vp_in (nI i) L := vp_in_nI (by omega) (by omega)
  have h1 : vp_in (nI i + 1) L := by rw [show nI i + 1 = nI (i + 1) from nI_add i 1]; exact vp_in_nI (by omega) (by omega)
  have h2 : vp_in (nI i + 2) L := by rw [show nI i + 2 = nI (i + 2) from nI_add i 2]; exact vp_in_nI (by omega) (by omega)
  have h3 : vp_in (nI i + 3) L := by rw [show nI i + 3 = nI (i + 3) from nI_add i 3]; exact vp_in_nI (by omega) (by omega)
  have h4 : vp_in (nI i + 4) L := by rw [show nI i + 4 = nI (i + 4) from nI_add i 4]; exact vp_in_nI (by omega) (by omega)
  have kk : ∀ (H1 : Heap) (locs1 : List Loc), Wd D Y v u s H1 locs1 → W p l e room_1 s m #[Value.ref b] below meth c H1 locs1 600000 7302250 (lw_Z below #[Value.ref b] s) (F0 m 923 ls []) := fun H1 locs1 hW1 => by
    refine lv_iinc (v := nI (i + 5)) (lv' := [(3, .int (nI (i + 5))), (2, .ref (u 0)), (1, .ref (v 0 0)), (0, .ref b)]) hx hb dL_law_923 hl (k := 0) rfl (show nI i + 5 = nI (i + 5) from nI_add i 5) (by decide) rfl (fun ls hl => ?_)
    refine lv_goto (tgt := 18) hx hb dL_law_926 (by decide) ?_
    exact rec hiL H1 locs1 ls hW1 hl
  refine lv_aload_n hx hb dL_law_26 rfl (lv_at hl 3 rfl) ?_
  refine lv_iload_n hx hb dL_law_27 rfl (lv_at hl 0 rfl) ?_
  refine va_sld hx hb hX hbl hbA hS h0 dL_law_28 ?_
  refine lv_bipush (v := (31 : Int32)) hx hb dL_law_29 (by decide) ?_
  refine lv_iand hx hb dL_law_31 ?_
  refine lv_topi (fun y ey => ?_)
  by_cases cy : y.toInt < 0 ∨ 24 < y.toInt
  · refine lv_tableOut (tgt := 923) hx hb dL_law_32 cy (by decide) ?_
    exact kk H locs hW
  rcases lw_tb cy with cy | cy | cy | cy | cy | cy | cy | cy | cy | cy | cy | cy | cy | cy | cy | cy | cy | cy | cy | cy | cy | cy | cy | cy | cy
  · refine lv_tableIn (off := 116) (tgt := 148) hx hb dL_law_32 (by rw [cy]; decide) (by rw [cy]; decide) (by rw [cy]; rfl) (by decide) ?_
    exact lc_write S h1 h2 h3 h4 hW hl kk
  · refine lv_tableIn (off := 179) (tgt := 211) hx hb dL_law_32 (by rw [cy]; decide) (by rw [cy]; decide) (by rw [cy]; rfl) (by decide) ?_
    exact lc_erase S h1 h2 h3 h4 hW hl kk
  · refine lv_tableIn (off := 192) (tgt := 224) hx hb dL_law_32 (by rw [cy]; decide) (by rw [cy]; decide) (by rw [cy]; rfl) (by decide) ?_
    exact lc_fault S h1 h2 h3 h4 hW hl kk
  · refine lv_tableIn (off := 205) (tgt := 237) hx hb dL_law_32 (by rw [cy]; decide) (by rw [cy]; decide) (by rw [cy]; rfl) (by decide) ?_
    exact lc_green S h1 h2 h3 h4 hW hl kk
  · refine lv_tableIn (off := 218) (tgt := 250) hx hb dL_law_32 (by rw [cy]; decide) (by rw [cy]; decide) (by rw [cy]; rfl) (by decide) ?_
    exact lc_plot S h1 h2 h3 h4 hW hl kk
  · refine lv_tableIn (off := 251) (tgt := 283) hx hb dL_law_32 (by rw [cy]; decide) (by rw [cy]; decide) (by rw [cy]; rfl) (by decide) ?_
    exact lc_house S h1 h2 h3 h4 hW hl kk
  · refine lv_tableIn (off := 284) (tgt := 316) hx hb dL_law_32 (by rw [cy]; decide) (by rw [cy]; decide) (by rw [cy]; rfl) (by decide) ?_
    exact lc_as S h1 h2 h3 h4 hW hl kk
  · refine lv_tableIn (off := 317) (tgt := 349) hx hb dL_law_32 (by rw [cy]; decide) (by rw [cy]; decide) (by rw [cy]; rfl) (by decide) ?_
    exact lc_can S h1 h2 h3 h4 hW hl kk
  · refine lv_tableIn (off := 350) (tgt := 382) hx hb dL_law_32 (by rw [cy]; decide) (by rw [cy]; decide) (by rw [cy]; rfl) (by decide) ?_
    exact lc_go S h1 h2 h3 h4 hW hl kk
  · refine lv_tableIn (off := 373) (tgt := 405) hx hb dL_law_32 (by rw [cy]; decide) (by rw [cy]; decide) (by rw [cy]; rfl) (by decide) ?_
    exact lc_roll S h1 h2 h3 h4 hW hl kk
  · refine lv_tableIn (off := 406) (tgt := 438) hx hb dL_law_32 (by rw [cy]; decide) (by rw [cy]; decide) (by rw [cy]; rfl) (by decide) ?_
    exact lc_keep S h1 h2 h3 h4 hW hl kk
  · refine lv_tableIn (off := 429) (tgt := 461) hx hb dL_law_32 (by rw [cy]; decide) (by rw [cy]; decide) (by rw [cy]; rfl) (by decide) ?_
    exact lc_back S h1 h2 h3 h4 hW hl kk
  · refine lv_tableIn (off := 452) (tgt := 484) hx hb dL_law_32 (by rw [cy]; decide) (by rw [cy]; decide) (by rw [cy]; rfl) (by decide) ?_
    exact lc_later S h1 h2 h3 h4 hW hl kk
  · refine lv_tableIn (off := 485) (tgt := 517) hx hb dL_law_32 (by rw [cy]; decide) (by rw [cy]; decide) (by rw [cy]; rfl) (by decide) ?_
    exact lc_round S h1 h2 h3 h4 hW hl kk
  · refine lv_tableIn (off := 508) (tgt := 540) hx hb dL_law_32 (by rw [cy]; decide) (by rw [cy]; decide) (by rw [cy]; rfl) (by decide) ?_
    exact lc_touch S h1 h2 h3 h4 hW hl kk
  · refine lv_tableIn (off := 551) (tgt := 583) hx hb dL_law_32 (by rw [cy]; decide) (by rw [cy]; decide) (by rw [cy]; rfl) (by decide) ?_
    exact lc_when S h1 h2 h3 h4 hW hl kk
  · refine lv_tableIn (off := 594) (tgt := 626) hx hb dL_law_32 (by rw [cy]; decide) (by rw [cy]; decide) (by rw [cy]; rfl) (by decide) ?_
    exact lc_often S h1 h2 h3 h4 hW hl kk
  · refine lv_tableIn (off := 647) (tgt := 679) hx hb dL_law_32 (by rw [cy]; decide) (by rw [cy]; decide) (by rw [cy]; rfl) (by decide) ?_
    exact lc_brings S h1 h2 h3 h4 hW hl kk
  · refine lv_tableIn (off := 680) (tgt := 712) hx hb dL_law_32 (by rw [cy]; decide) (by rw [cy]; decide) (by rw [cy]; rfl) (by decide) ?_
    exact lc_feuding S h1 h2 h3 h4 hW hl kk
  · refine lv_tableIn (off := 703) (tgt := 735) hx hb dL_law_32 (by rw [cy]; decide) (by rw [cy]; decide) (by rw [cy]; rfl) (by decide) ?_
    exact lc_nearest S h1 h2 h3 h4 hW hl kk
  · refine lv_tableIn (off := 746) (tgt := 778) hx hb dL_law_32 (by rw [cy]; decide) (by rw [cy]; decide) (by rw [cy]; rfl) (by decide) ?_
    exact lc_mends S h1 h2 h3 h4 hW hl kk
  · refine lv_tableIn (off := 799) (tgt := 831) hx hb dL_law_32 (by rw [cy]; decide) (by rw [cy]; decide) (by rw [cy]; rfl) (by decide) ?_
    exact lc_seen S h1 h2 h3 h4 hW hl kk
  · refine lv_tableIn (off := 842) (tgt := 874) hx hb dL_law_32 (by rw [cy]; decide) (by rw [cy]; decide) (by rw [cy]; rfl) (by decide) ?_
    exact lc_forget S h1 h2 h3 h4 hW hl kk
  · refine lv_tableIn (off := 855) (tgt := 887) hx hb dL_law_32 (by rw [cy]; decide) (by rw [cy]; decide) (by rw [cy]; rfl) (by decide) ?_
    exact lc_laws S h1 h2 h3 h4 hW hl kk
  · refine lv_tableIn (off := 868) (tgt := 900) hx hb dL_law_32 (by rw [cy]; decide) (by rw [cy]; decide) (by rw [cy]; rfl) (by decide) ?_
    exact lc_count S h1 h2 h3 h4 hW hl kk
theorem law_loop {p : Program} {l : Launch} {e : Env} {s : State} {m : MethodId} {below : List Frame} {meth : Method} {c : Code} {D : va_G} {Y : Nat → ClassId} {v : Nat → Nat → Nat} {u : Nat → Nat} {adK adV : Nat → Nat} {b L : Nat} {xs : Nat → Int32}
    (S : LwS p s m c b L xs D Y adK adV) (hL : L ≤ 2560) (hr : meth.sig.returnType = ret) (hlocks : meth.locks = false) : ∀ (n i : Nat), i ≤ 2565 → L < i + n → ∀ (H : Heap) (locs : List Loc) (ls : Array Slot), Wd D Y v u s H locs → lv_has ls 4 [(3, .int (nI i)), (2, .ref (u 0)), (1, .ref (v 0 0)), (0, .ref b)] → W p l e room_1 s m #[Value.ref b] below meth c H locs 600000 7302250 (lw_Z below #[Value.ref b] s) (F0 m 18 ls []) := by
  intro n
  induction n with
  | zero => exact fun i hi hn H locs ls hW hl => lw_body S hL hr hlocks hi hW hl (fun h => by omega)
  | succ n ih => exact fun i hi hn H locs ls hW hl => lw_body S hL hr hlocks hi hW hl (fun h H1 locs1 ls1 hW1 hl1 => ih (i + 5) (by omega) (by omega) H1 locs1 ls1 hW1 hl1)
