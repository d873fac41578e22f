/-! commands, one by one: the class's and the reference's -/
/-- both at the word's end: b its begin, e its end -/
def AtW (L : Nat) (Bt : Nat → Nat) (b e ln w c : Nat) (xT tT m : GS) (T : NN) : Prop := XT xT L Bt e ln ∧ xT 0 3 = nI b ∧ b ≤ L ∧ e ≤ L ∧ RT tT T ∧ IT T ∧ MT m L Bt e ∧ m 0 14 = nI b ∧ CN m T ∧ m 7 w = nI c ∧ w + 2 < 36
theorem CN.N {m m' : GS} {T : NN} {w : Nat} (h : CN m T) (f : fNm m m' w) : CN m' T := by
  obtain ⟨a, b, c, d, e⟩ := h
  refine ⟨?_, ?_, ?_, ?_, ?_⟩
  · rw [f 0 20 (by decide) (by simp)]; exact a
  · rw [f 0 21 (by decide) (by simp)]; exact b
  · rw [f 0 22 (by decide) (by simp)]; exact c
  · rw [f 0 23 (by decide) (by simp)]; exact d
  · rw [f 0 24 (by decide) (by simp)]; exact e
theorem l_green {L b e ln w : Nat} {Bt : Nat → Nat} {xT tT m : GS} {T : NN} (tk : Int64) (H : AtW L Bt b e ln w 0 xT tT m T) : LFS L Bt ln w T 0 (MX2_readGreen xT tT) (MX5_isGreen m tk (nI w)) m := by
  obtain ⟨hX, h3, hbL, heL, hT, hI, hM, h14, hC, h7, hw⟩ := H
  obtain ⟨xT', a1, a2, a3, a4, a5⟩ := p_readNumber hX heL (lo := 3) (h := 13) (md := 2) (m := nI 12) (by decide) (by decide) (hm_n (h := 13) (by decide) (by decide))
  obtain ⟨m', b1, b2, b3, b4, b5, b6⟩ := r_isNumber hM heL tk (w := w + 1) (lo := 3) (h := 13) (md := 2) (m := nI 12) (by omega) (by decide) (Or.inl ⟨by decide, rfl⟩) (hm_n (h := 13) (by decide) (by decide))
  unfold MX2_readGreen MX5_isGreen
  cases q : nb Bt (tB L Bt e) (tE L Bt (tB L Bt e)) 3 13 2 with
  | none =>
    rw [q] at a1 b1
    left
    simp (disch := omega) only [nm, jn0, jn1, jn2, jn3, jn4, jn5, bnd1_s, bnd2_s, bnd3_s, bnd4_s, lit_n, neg1, chkI_n, chkZ_n, chkC_n, bI_B, chkB_0, chkB_1, bI_t, bI_f, clamp_n, nI_add, subn, remn2, nat_rem, divn, pk_mul, ifle_t, ifle_f, iflt_t, iflt_f, ifeq_t, ifeq_f, ifm_f, ifm_t, if_true, if_false, a1, b1, oI, Option.isSome_none]
    exact ⟨_, _, _, _, _, _, rfl, rfl, a2, a3, by omega, b4 q, b2.p (by omega) (by omega)⟩
  | some v =>
    rw [q] at a1 b1
    have e7 := b5 v q
    obtain ⟨v1, v2⟩ := nb_some q
    obtain ⟨t', c1, c2⟩ := p_layOut hT v
    right
    simp (disch := omega) only [nm, jn0, jn1, jn2, jn3, jn4, jn5, bnd1_s, bnd2_s, bnd3_s, bnd4_s, lit_n, neg1, chkI_n, chkZ_n, chkC_n, bI_B, chkB_0, chkB_1, bI_t, bI_f, clamp_n, nI_add, subn, remn2, nat_rem, divn, pk_mul, ifle_t, ifle_f, iflt_t, iflt_f, ifeq_t, ifeq_f, ifm_f, ifm_t, if_true, if_false, a1, b1, oI, Option.isSome_some, c1, e7]
    refine ⟨_, t', _, _, _, v, 0, rfl, rfl, a2, a5, ⟨?_, ?_, b3.2.2.1, fun i hi => ?_⟩, c2, IT_lay hI v1 v2, ⟨?_, ?_, ?_, ?_, ?_⟩, (by unfold okA; omega), ⟨?_, fun _ => ?_, fun z => by omega⟩, ?_⟩
    · simp (disch := omega) only [up2_s, up2_r, up2_n, upA_s, upA_r, pk_us, pk_un, cpy_n]; exact b3.1
    · simp (disch := omega) only [up2_s, up2_r, up2_n, upA_s, upA_r, pk_us, pk_un, cpy_n]; exact b3.2.1
    · simp (disch := omega) only [up2_s, up2_r, up2_n, upA_s, upA_r, pk_us, pk_un, cpy_n]; exact b3.2.2.2 i hi
    · simp (disch := omega) only [up2_s, up2_r, up2_n, upA_s, upA_r, pk_us, pk_un, cpy_n]; simp [doA, lay]
    · simp (disch := omega) only [up2_s, up2_r, up2_n, upA_s, upA_r, pk_us, pk_un, cpy_n]; simp [doA, lay]
    · simp (disch := omega) only [up2_s, up2_r, up2_n, upA_s, upA_r, pk_us, pk_un, cpy_n]; simp [doA, lay, ocN]
    · simp (disch := omega) only [up2_s, up2_r, up2_n, upA_s, upA_r, pk_us, pk_un, cpy_n]; simp [doA, lay]
    · simp (disch := omega) only [up2_s, up2_r, up2_n, upA_s, upA_r, pk_us, pk_un, cpy_n]; simp [doA, lay]
    · simp (disch := omega) only [up2_s, up2_r, up2_n, upA_s, upA_r, pk_us, pk_un, cpy_n]; rw [b2 7 w (by simp) (by omega)]; exact h7
    · simp (disch := omega) only [up2_s, up2_r, up2_n, upA_s, upA_r, pk_us, pk_un, cpy_n]; exact e7
    · refine (b2.p (w := w) (by omega) (by omega)).trans ?_
      exact (fPs_up (by decide) (by decide) (by decide) (by decide)).trans ((fPs_up (by decide) (by decide) (by decide) (by decide)).trans ((fPs_up (by decide) (by decide) (by decide) (by decide)).trans ((fPs_up (by decide) (by decide) (by decide) (by decide)).trans (fPs_up (by decide) (by decide) (by decide) (by decide)))))
theorem l_crop {L b e ln w : Nat} {Bt : Nat → Nat} {xT tT m : GS} {T : NN} (tk : Int64) (H : AtW L Bt b e ln w 1 xT tT m T) : LFS L Bt ln w T 1 (MX2_readCrop xT tT) (bnd3 (MX5_isNumber m tk (nI w + (1 : Int32)) (0 : Int32) ((m 0 20) - (1 : Int32))) fun (r19 : Int32) (mM_20 : GS) (tk_21 : Int64) => jn3 (fun (mM_23 : GS) (tk_24 : Int64) (x25 : Int32) => chkB x25 (some (x25, mM_23, tk_24))) (fun k26 => jn2 (fun (mM_28 : GS) (tk_29 : Int64) => k26 mM_28 tk_29 (0 : Int32)) (fun k30 => if r19 = 0 then (k30 mM_20 tk_21) else (bnd3 (MX5_isNumber mM_20 tk_21 (nI w + (2 : Int32)) (0 : Int32) (9 : Int32)) fun (r32 : Int32) (mM_33 : GS) (tk_34 : Int64) => if r32 = 0 then (k30 mM_33 tk_34) else (k26 mM_33 tk_34 (1 : Int32)))))) m := by
  obtain ⟨hX, h3, hbL, heL, hT, hI, hM, h14, hC, h7, hw⟩ := H
  have i0 := hI.1.1
  have i1 := hI.1.2.1
  have t0 := hT.1.1
  have c20 := hC.1
  obtain ⟨xT', a1, a2, a3, a4, a5⟩ := p_readNumber hX heL (lo := 0) (h := T 0 0) (md := 2) (m := nI (T 0 0 - 1)) (by decide) (by decide) (hm_n (by omega) (by omega))
  obtain ⟨m', b1, b2, b3, b4, b5, b6⟩ := r_isNumber hM heL tk (w := w + 1) (lo := 0) (h := T 0 0) (md := 2) (m := nI (T 0 0 - 1)) (by omega) (by decide) (Or.inl ⟨nI_le (by omega) (by decide), rfl⟩) (hm_n (by omega) (by omega))
  unfold MX2_readCrop
  cases q : nb Bt (tB L Bt e) (tE L Bt (tB L Bt e)) 0 (T 0 0) 2 with
  | none =>
    rw [q] at a1 b1
    left
    simp (disch := omega) only [nm, jn0, jn1, jn2, jn3, jn4, jn5, bnd1_s, bnd2_s, bnd3_s, bnd4_s, lit_n, neg1, chkI_n, chkZ_n, chkC_n, bI_B, chkB_0, chkB_1, bI_t, bI_f, clamp_n, nI_add, subn, remn2, nat_rem, divn, pk_mul, ifle_t, ifle_f, iflt_t, iflt_f, ifeq_t, ifeq_f, ifm_f, ifm_t, if_true, if_false, t0, c20, a1, b1, oI, Option.isSome_none]
    exact ⟨_, _, _, _, _, _, rfl, rfl, a2, a3, by omega, b4 q, b2.p (by omega) (by omega)⟩
  | some v =>
    rw [q] at a1 b1
    have e7 := b5 v q
    obtain ⟨v1, v2⟩ := nb_some q
    obtain ⟨xT2, d1, d2, d3, d4, d5⟩ := p_readNumber a2 a5 (lo := 0) (h := 10) (md := 2) (m := nI 9) (by decide) (by decide) (hm_n (h := 10) (by decide) (by decide))
    obtain ⟨m2, g1, g2, g3, g4, g5, g6⟩ := r_isNumber b3 a5 (tkn L Bt (tB L Bt e)) (w := w + 2) (lo := 0) (h := 10) (md := 2) (m := nI 9) (by omega) (by decide) (Or.inl ⟨by decide, rfl⟩) (hm_n (h := 10) (by decide) (by decide))
    have F := (b2.p (w := w) (by omega) (by omega)).trans (g2.p (w := w) (by omega) (by omega))
    cases q2 : nb Bt (tB L Bt (tE L Bt (tB L Bt e))) (tE L Bt (tB L Bt (tE L Bt (tB L Bt e)))) 0 10 2 with
    | none =>
      rw [q2] at d1 g1
      left
      simp (disch := omega) only [nm, jn0, jn1, jn2, jn3, jn4, jn5, bnd1_s, bnd2_s, bnd3_s, bnd4_s, lit_n, neg1, chkI_n, chkZ_n, chkC_n, bI_B, chkB_0, chkB_1, bI_t, bI_f, clamp_n, nI_add, subn, remn2, nat_rem, divn, pk_mul, ifle_t, ifle_f, iflt_t, iflt_f, ifeq_t, ifeq_f, ifm_f, ifm_t, if_true, if_false, t0, c20, a1, b1, oI, Option.isSome_some, d1, g1, Option.isSome_none]
      exact ⟨_, _, _, _, _, _, rfl, rfl, d2, d3, by omega, g4 q2, F⟩
    | some u =>
      rw [q2] at d1 g1
      have e8 := g5 u q2
      obtain ⟨u1, u2⟩ := nb_some q2
      right
      simp (disch := omega) only [nm, jn0, jn1, jn2, jn3, jn4, jn5, bnd1_s, bnd2_s, bnd3_s, bnd4_s, lit_n, neg1, chkI_n, chkZ_n, chkC_n, bI_B, chkB_0, chkB_1, bI_t, bI_f, clamp_n, nI_add, subn, remn2, nat_rem, divn, pk_mul, ifle_t, ifle_f, iflt_t, iflt_f, ifeq_t, ifeq_f, ifm_f, ifm_t, if_true, if_false, t0, c20, a1, b1, oI, Option.isSome_some, d1, g1]
      refine ⟨_, _, _, _, _, v, u, rfl, rfl, d2, d5, g3, ?_, IT_crop hI (by omega), ?_, (by unfold okA; omega), ⟨?_, fun _ => ?_, fun _ => e8⟩, F⟩
      · obtain ⟨⟨t0, t1, t2, t3, t4, t5, t6⟩, r1, r2, r3, r4, r5, r6, r7⟩ := hT
        refine ⟨⟨?_, ?_, ?_, ?_, ?_, ?_, ?_⟩, fun q hq => ?_, fun q hq => ?_, fun q hq => ?_, fun q hq => ?_, fun q hq => ?_, fun q hq => ?_, fun q hq => ?_⟩
        · rw [upA_r (by decide), t0]; simp [doA, tU]
        · rw [upA_r (by decide), t1]; simp [doA, tU]
        · rw [upA_r (by decide), t2]; simp [doA, tU]
        · rw [upA_r (by decide), t3]; simp [doA, tU]
        · rw [upA_r (by decide), t4]; simp [doA, tU]
        · rw [upA_r (by decide), t5]; simp [doA, tU]
        · rw [upA_r (by decide), t6]; exact congrArg nI (ocN_cg (by simp [doA, tU]) (by simp [doA, tU]) (fun h => by simp [doA, tU]) (fun h => by simp [doA, tU]))
        · rw [upA_s, upd_n (r1 q hq)]; simp [doA, tU]
        · rw [upA_r (by decide), r2 q hq]; simp [doA, tU]
        · rw [upA_r (by decide), r3 q hq]; simp [doA, tU]
        · rw [upA_r (by decide), r4 q hq]; simp [doA, tU]
        · rw [upA_r (by decide), r5 q hq]; simp [doA, tU]
        · rw [upA_r (by decide), r6 q hq]; simp [doA, tU]
        · rw [upA_r (by decide), r7 q hq]; simp [doA, tU]
      · have hC2 := (hC.N b2).N g2
        have e3 : (tU T 1 v u) 3 = T 3 := by funext x; simp [tU]
        have eo : ∀ n, ocN (tU T 1 v u) ((tU T 1 v u) 3) n = ocN T (T 3) n := by
          intro n
          induction n with
          | zero => rfl
          | succ n ih =>
            unfold ocN
            rw [ih, e3]
            simp [tU]
        obtain ⟨y1, y2, y3, y4, y5⟩ := hC2
        refine ⟨?_, ?_, ?_, ?_, ?_⟩
        · rw [y1]; simp [doA, tU]
        · rw [y2]; simp [doA, tU]
        · rw [y3]
          show _ = nI (ocN (tU T 1 v u) ((tU T 1 v u) 3) ((tU T 1 v u) 0 1))
          rw [eo]; simp [tU]
        · rw [y4]; simp [doA, tU]
        · rw [y5]; simp [doA, tU]
      · rw [g2 7 w (by simp) (by omega), b2 7 w (by simp) (by omega)]; exact h7
      · rw [g2 7 (w + 1) (by simp) (by omega)]; exact e7
theorem l_house {L b e ln w k : Nat} {Bt : Nat → Nat} {xT tT m : GS} {T : NN} (tk : Int64) (hk : k ≤ 3) (H : AtW L Bt b e ln w (k + 2) xT tT m T) : LFS L Bt ln w T (k + 2) (MX2_readHouse xT tT (nI k)) (MX5_isHouseLine m tk (nI w) (nI (if k = 3 then 1 else 0))) m := by
  obtain ⟨hX, h3, hbL, heL, hT, hI, hM, h14, hC, h7, hw⟩ := H
  have i0 := hI.1.1
  have i1 := hI.1.2.1
  have i2 := hI.1.2.2.1
  have t0 := hT.1.1
  have t1 := hT.1.2.1
  obtain ⟨c20, c21, c22, c23, c24⟩ := hC
  unfold MX2_readHouse MX5_isHouseLine
  by_cases h8 : T 0 1 < 8
  · obtain ⟨m0, hm0⟩ : ∃ m0, m0 = up2 m 0 21 (nI (T 0 1 + 1)) := ⟨_, rfl⟩
    have f0 : fPs m m0 w := by rw [hm0]; exact fPs_up (by decide) (by decide) (by decide) (by decide)
    have M0 : MT m0 L Bt e := by
      obtain ⟨x1, x2, x3, x4⟩ := hM
      refine ⟨by rw [hm0, up2_n (by decide)]; exact x1, by rw [hm0, up2_n (by decide)]; exact x2, x3, fun i hi => by rw [hm0, up2_r (by decide)]; exact x4 i hi⟩
    have m020 : m0 0 20 = nI (T 0 0) := by rw [hm0, up2_n (by decide)]; exact c20
    obtain ⟨xT', a1, a2, a3, a4, a5⟩ := p_readNumber hX heL (lo := 0) (h := T 0 0) (md := 2) (m := nI (T 0 0 - 1)) (by decide) (by decide) (hm_n (by omega) (by omega))
    obtain ⟨m', b1, b2, b3, b4, b5, b6⟩ := r_isNumber M0 heL tk (w := w + 1) (lo := 0) (h := T 0 0) (md := 2) (m := nI (T 0 0 - 1)) (by omega) (by decide) (Or.inl ⟨nI_le (by omega) (by decide), rfl⟩) (hm_n (by omega) (by omega))
    have F := f0.trans (b2.p (w := w) (by omega) (by omega))
    cases q : nb Bt (tB L Bt e) (tE L Bt (tB L Bt e)) 0 (T 0 0) 2 with
    | none =>
      rw [q] at a1 b1
      left
      simp (disch := omega) only [nm, jn0, jn1, jn2, jn3, jn4, jn5, bnd1_s, bnd2_s, bnd3_s, bnd4_s, lit_n, neg1, chkI_n, chkZ_n, chkC_n, bI_B, chkB_0, chkB_1, bI_t, bI_f, clamp_n, nI_add, subn, remn2, nat_rem, divn, pk_mul, ifle_t, ifle_f, iflt_t, iflt_f, ifeq_t, ifeq_f, ifm_f, ifm_t, if_true, if_false, t0, t1, c21, ← hm0, m020, a1, b1, oI, Option.isSome_none]
      exact ⟨_, _, _, _, _, _, rfl, rfl, a2, a3, by omega, b4 q, F⟩
    | some v =>
      rw [q] at a1 b1
      have e7 := b5 v q
      obtain ⟨v1, v2⟩ := nb_some q
      have hset := p_settle hT hI hk v2 h8
      have ol : ocN T (T 3) (T 0 1) < 2 ^ T 0 0 := ocN_lt hI.2.2.2.1
      have gl : gr (T 0 0) k v < 2 ^ T 0 0 := gr_lt v2
      have orl : ocN T (T 3) (T 0 1) ||| gr (T 0 0) k v < 2 ^ T 0 0 := or_lt ol gl
      have andl : ocN T (T 3) (T 0 1) &&& gr (T 0 0) k v < 2 ^ T 0 0 := Nat.and_lt_two_pow _ gl
      have e12 := two_12 i1
      have hz2 : 0 < 2 ^ T 0 0 := Nat.two_pow_pos _
      have nl : nx (T 0 0) v < T 0 0 := nx_lt (by omega)
      have n20 : m' 0 20 = nI (T 0 0) := by rw [b2 0 20 (by decide) (by simp)]; exact m020
      have n22 : m' 0 22 = nI (ocN T (T 3) (T 0 1)) := by rw [b2 0 22 (by decide) (by simp), hm0, up2_n (by decide)]; exact c22
      have n21 : m' 0 21 = nI (T 0 1 + 1) := by rw [b2 0 21 (by decide) (by simp), hm0, up2_s]
      have n23 : m' 0 23 = nI (T 0 2) := by rw [b2 0 23 (by decide) (by simp), hm0, up2_n (by decide)]; exact c23
      have n24 : m' 0 24 = nI (T 0 3) := by rw [b2 0 24 (by decide) (by simp), hm0, up2_n (by decide)]; exact c24
      have shlP : nI 1 <<< (nI (T 0 0) &&& nI 31) = nI (2 ^ T 0 0) := shl_1 (by omega)
      have shlV : nI 1 <<< (nI v &&& nI 31) = nI (2 ^ v) := shl_1 (by omega)
      have shlN : nI 1 <<< (nI (nx (T 0 0) v) &&& nI 31) = nI (2 ^ nx (T 0 0) v) := shl_1 (by omega)
      have nmod : (v + 1) % T 0 0 = nx (T 0 0) v := nx_mod v2
      have hfail := r_fails b6
      by_cases hc : ocN T (T 3) (T 0 1) &&& gr (T 0 0) k v = 0 ∧ ocN T (T 3) (T 0 1) ||| gr (T 0 0) k v ≠ 2 ^ T 0 0 - 1
      · obtain ⟨t', s1, s2⟩ := hset.2 hc
        right
        refine ⟨xT', t', up2 m' 0 22 (nI (ocN T (T 3) (T 0 1) ||| gr (T 0 0) k v)), tkn L Bt (tB L Bt e), tE L Bt (tB L Bt e), v, 0, ?_, ?_, a2, a5, ⟨?_, ?_, b3.2.2.1, fun i hi => ?_⟩, ?_, ?_, ?_, ?_, ⟨?_, fun _ => ?_, fun z => by omega⟩, F.trans (fPs_up (by decide) (by decide) (by decide) (by decide))⟩
        · simp (disch := omega) only [nm, jn0, jn1, jn2, jn3, jn4, jn5, bnd1_s, bnd2_s, bnd3_s, bnd4_s, lit_n, neg1, chkI_n, chkZ_n, chkC_n, bI_B, chkB_0, chkB_1, bI_t, bI_f, clamp_n, nI_add, subn, remn2, nat_rem, divn, pk_mul, ifle_t, ifle_f, iflt_t, iflt_f, ifeq_t, ifeq_f, ifm_f, ifm_t, if_true, if_false, t0, t1, a1, oI, s1]
        · have z1 := hc.1
          have z2 := hc.2
          by_cases k3 : k = 3
          · have hgv : 2 ^ v ||| 2 ^ nx (T 0 0) v = gr (T 0 0) k v := by unfold gr; rw [if_pos k3]
            rw [if_pos k3]
            simp (disch := omega) only [nm, jn0, jn1, jn2, jn3, jn4, jn5, bnd1_s, bnd2_s, bnd3_s, bnd4_s, lit_n, neg1, chkI_n, chkZ_n, chkC_n, bI_B, chkB_0, chkB_1, bI_t, bI_f, clamp_n, nI_add, subn, remn2, nat_rem, divn, pk_mul, ifle_t, ifle_f, iflt_t, iflt_f, ifeq_t, ifeq_f, ifm_f, ifm_t, if_true, if_false, c21, ← hm0, m020, b1, Option.isSome_some, e7, n20, nmod, shlV, shlN, shlP, n22]
            simp (disch := omega) only [nm, jn0, jn1, jn2, jn3, jn4, jn5, bnd1_s, bnd2_s, bnd3_s, bnd4_s, lit_n, neg1, chkI_n, chkZ_n, chkC_n, bI_B, chkB_0, chkB_1, bI_t, bI_f, clamp_n, nI_add, subn, remn2, nat_rem, divn, pk_mul, ifle_t, ifle_f, iflt_t, iflt_f, ifeq_t, ifeq_f, ifm_f, ifm_t, if_true, if_false, fa_or, hgv, fa_and, z1]
          · have hgv : nI 1 <<< (nI v &&& nI 31) = nI (gr (T 0 0) k v) := by rw [shlV]; unfold gr; rw [if_neg k3]
            rw [if_neg k3]
            simp (disch := omega) only [nm, jn0, jn1, jn2, jn3, jn4, jn5, bnd1_s, bnd2_s, bnd3_s, bnd4_s, lit_n, neg1, chkI_n, chkZ_n, chkC_n, bI_B, chkB_0, chkB_1, bI_t, bI_f, clamp_n, nI_add, subn, remn2, nat_rem, divn, pk_mul, ifle_t, ifle_f, iflt_t, iflt_f, ifeq_t, ifeq_f, ifm_f, ifm_t, if_true, if_false, c21, ← hm0, m020, b1, Option.isSome_some, e7, n20, hgv, shlP, n22]
            simp (disch := omega) only [nm, jn0, jn1, jn2, jn3, jn4, jn5, bnd1_s, bnd2_s, bnd3_s, bnd4_s, lit_n, neg1, chkI_n, chkZ_n, chkC_n, bI_B, chkB_0, chkB_1, bI_t, bI_f, clamp_n, nI_add, subn, remn2, nat_rem, divn, pk_mul, ifle_t, ifle_f, iflt_t, iflt_f, ifeq_t, ifeq_f, ifm_f, ifm_t, if_true, if_false, fa_or, Nat.or_zero, fa_and, z1]
        · simp (disch := omega) only [up2_s, up2_r, up2_n, upA_s, upA_r, pk_us, pk_un, cpy_n]; exact b3.1
        · simp (disch := omega) only [up2_s, up2_r, up2_n, upA_s, upA_r, pk_us, pk_un, cpy_n]; exact b3.2.1
        · simp (disch := omega) only [up2_s, up2_r, up2_n, upA_s, upA_r, pk_us, pk_un, cpy_n]; exact b3.2.2.2 i hi
        · have : doA T (k + 2) v 0 = stl T k v := by
            have hkk : k = 0 ∨ k = 1 ∨ k = 2 ∨ k = 3 := by omega
            rcases hkk with rfl | rfl | rfl | rfl <;> rfl
          rw [this]; exact s2
        · have : doA T (k + 2) v 0 = stl T k v := by
            have hkk : k = 0 ∨ k = 1 ∨ k = 2 ∨ k = 3 := by omega
            rcases hkk with rfl | rfl | rfl | rfl <;> rfl
          rw [this]; exact IT_stl hI h8 hk v2 hc.1
        · have : doA T (k + 2) v 0 = stl T k v := by
            have hkk : k = 0 ∨ k = 1 ∨ k = 2 ∨ k = 3 := by omega
            rcases hkk with rfl | rfl | rfl | rfl <;> rfl
          rw [this]
          have e1 : stl T k v 0 1 = T 0 1 + 1 := by simp [stl, tU]
          refine ⟨?_, ?_, ?_, ?_, ?_⟩
          · rw [up2_n (by decide), n20]; simp [stl, tU]
          · rw [up2_n (by decide), n21, e1]
          · rw [up2_s, e1, stl_oc1]
          · rw [up2_n (by decide), n23]; simp [stl, tU]
          · rw [up2_n (by decide), n24]; simp [stl, tU]
        · unfold okA; omega
        · simp (disch := omega) only [up2_s, up2_r, up2_n, upA_s, upA_r, pk_us, pk_un, cpy_n]
          rw [b2 7 w (by simp) (by omega), hm0, up2_r (by decide)]; exact h7
        · simp (disch := omega) only [up2_s, up2_r, up2_n, upA_s, upA_r, pk_us, pk_un, cpy_n]; exact e7
      · have s1 := hset.1 hc
        left
        refine ⟨xT', tT, up2 m' 0 18 (nI (tB L Bt e)), tkn L Bt (tB L Bt e), tB L Bt e, tE L Bt (tB L Bt e), ?_, ?_, a2, a3, by omega, up2_s, F.trans (fPs_up (by decide) (by decide) (by decide) (by decide))⟩
        · simp (disch := omega) only [nm, jn0, jn1, jn2, jn3, jn4, jn5, bnd1_s, bnd2_s, bnd3_s, bnd4_s, lit_n, neg1, chkI_n, chkZ_n, chkC_n, bI_B, chkB_0, chkB_1, bI_t, bI_f, clamp_n, nI_add, subn, remn2, nat_rem, divn, pk_mul, ifle_t, ifle_f, iflt_t, iflt_f, ifeq_t, ifeq_f, ifm_f, ifm_t, if_true, if_false, t0, t1, a1, oI, s1]
        · by_cases z1 : ocN T (T 3) (T 0 1) &&& gr (T 0 0) k v = 0
          · have z2 : ocN T (T 3) (T 0 1) ||| gr (T 0 0) k v = 2 ^ T 0 0 - 1 := Decidable.byContradiction fun y => hc ⟨z1, y⟩
            by_cases k3 : k = 3
            · have hgv : 2 ^ v ||| 2 ^ nx (T 0 0) v = gr (T 0 0) k v := by unfold gr; rw [if_pos k3]
              rw [if_pos k3]
              simp (disch := omega) only [nm, jn0, jn1, jn2, jn3, jn4, jn5, bnd1_s, bnd2_s, bnd3_s, bnd4_s, lit_n, neg1, chkI_n, chkZ_n, chkC_n, bI_B, chkB_0, chkB_1, bI_t, bI_f, clamp_n, nI_add, subn, remn2, nat_rem, divn, pk_mul, ifle_t, ifle_f, iflt_t, iflt_f, ifeq_t, ifeq_f, ifm_f, ifm_t, if_true, if_false, c21, ← hm0, m020, b1, Option.isSome_some, e7, n20, nmod, shlV, shlN, shlP, n22]
              simp (disch := omega) only [nm, jn0, jn1, jn2, jn3, jn4, jn5, bnd1_s, bnd2_s, bnd3_s, bnd4_s, lit_n, neg1, chkI_n, chkZ_n, chkC_n, bI_B, chkB_0, chkB_1, bI_t, bI_f, clamp_n, nI_add, subn, remn2, nat_rem, divn, pk_mul, ifle_t, ifle_f, iflt_t, iflt_f, ifeq_t, ifeq_f, ifm_f, ifm_t, if_true, if_false, fa_or, hgv, fa_and, z1, z2, hfail]
            · have hgv : nI 1 <<< (nI v &&& nI 31) = nI (gr (T 0 0) k v) := by rw [shlV]; unfold gr; rw [if_neg k3]
              rw [if_neg k3]
              simp (disch := omega) only [nm, jn0, jn1, jn2, jn3, jn4, jn5, bnd1_s, bnd2_s, bnd3_s, bnd4_s, lit_n, neg1, chkI_n, chkZ_n, chkC_n, bI_B, chkB_0, chkB_1, bI_t, bI_f, clamp_n, nI_add, subn, remn2, nat_rem, divn, pk_mul, ifle_t, ifle_f, iflt_t, iflt_f, ifeq_t, ifeq_f, ifm_f, ifm_t, if_true, if_false, c21, ← hm0, m020, b1, Option.isSome_some, e7, n20, hgv, shlP, n22]
              simp (disch := omega) only [nm, jn0, jn1, jn2, jn3, jn4, jn5, bnd1_s, bnd2_s, bnd3_s, bnd4_s, lit_n, neg1, chkI_n, chkZ_n, chkC_n, bI_B, chkB_0, chkB_1, bI_t, bI_f, clamp_n, nI_add, subn, remn2, nat_rem, divn, pk_mul, ifle_t, ifle_f, iflt_t, iflt_f, ifeq_t, ifeq_f, ifm_f, ifm_t, if_true, if_false, fa_or, Nat.or_zero, fa_and, z1, z2, hfail]
          · have z3 : ocN T (T 3) (T 0 1) &&& gr (T 0 0) k v ≠ 0 := z1
            by_cases k3 : k = 3
            · have hgv : 2 ^ v ||| 2 ^ nx (T 0 0) v = gr (T 0 0) k v := by unfold gr; rw [if_pos k3]
              rw [if_pos k3]
              simp (disch := omega) only [nm, jn0, jn1, jn2, jn3, jn4, jn5, bnd1_s, bnd2_s, bnd3_s, bnd4_s, lit_n, neg1, chkI_n, chkZ_n, chkC_n, bI_B, chkB_0, chkB_1, bI_t, bI_f, clamp_n, nI_add, subn, remn2, nat_rem, divn, pk_mul, ifle_t, ifle_f, iflt_t, iflt_f, ifeq_t, ifeq_f, ifm_f, ifm_t, if_true, if_false, c21, ← hm0, m020, b1, Option.isSome_some, e7, n20, nmod, shlV, shlN, shlP, n22]
              simp (disch := omega) only [nm, jn0, jn1, jn2, jn3, jn4, jn5, bnd1_s, bnd2_s, bnd3_s, bnd4_s, lit_n, neg1, chkI_n, chkZ_n, chkC_n, bI_B, chkB_0, chkB_1, bI_t, bI_f, clamp_n, nI_add, subn, remn2, nat_rem, divn, pk_mul, ifle_t, ifle_f, iflt_t, iflt_f, ifeq_t, ifeq_f, ifm_f, ifm_t, if_true, if_false, fa_or, hgv, fa_and, hfail]
            · have hgv : nI 1 <<< (nI v &&& nI 31) = nI (gr (T 0 0) k v) := by rw [shlV]; unfold gr; rw [if_neg k3]
              rw [if_neg k3]
              simp (disch := omega) only [nm, jn0, jn1, jn2, jn3, jn4, jn5, bnd1_s, bnd2_s, bnd3_s, bnd4_s, lit_n, neg1, chkI_n, chkZ_n, chkC_n, bI_B, chkB_0, chkB_1, bI_t, bI_f, clamp_n, nI_add, subn, remn2, nat_rem, divn, pk_mul, ifle_t, ifle_f, iflt_t, iflt_f, ifeq_t, ifeq_f, ifm_f, ifm_t, if_true, if_false, c21, ← hm0, m020, b1, Option.isSome_some, e7, n20, hgv, shlP, n22]
              simp (disch := omega) only [nm, jn0, jn1, jn2, jn3, jn4, jn5, bnd1_s, bnd2_s, bnd3_s, bnd4_s, lit_n, neg1, chkI_n, chkZ_n, chkC_n, bI_B, chkB_0, chkB_1, bI_t, bI_f, clamp_n, nI_add, subn, remn2, nat_rem, divn, pk_mul, ifle_t, ifle_f, iflt_t, iflt_f, ifeq_t, ifeq_f, ifm_f, ifm_t, if_true, if_false, fa_or, Nat.or_zero, fa_and, hfail]
  · have h8' : T 0 1 = 8 := by omega
    have hf := r_fails h14
    left
    simp (disch := omega) only [nm, jn0, jn1, jn2, jn3, jn4, jn5, bnd1_s, bnd2_s, bnd3_s, bnd4_s, lit_n, neg1, chkI_n, chkZ_n, chkC_n, bI_B, chkB_0, chkB_1, bI_t, bI_f, clamp_n, nI_add, subn, remn2, nat_rem, divn, pk_mul, ifle_t, ifle_f, iflt_t, iflt_f, ifeq_t, ifeq_f, ifm_f, ifm_t, if_true, if_false, t1, c21, h8', hf]
    exact ⟨_, _, _, _, _, _, rfl, rfl, hX, h3, hbL, up2_s, fPs_up (by decide) (by decide) (by decide) (by decide)⟩
