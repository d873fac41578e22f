/-! the ways of a house, in the class -/
theorem mk_wayP {T : NN} {B O q : Nat} : ∀ {k : Nat}, wayP (mk T B) O q k = wayP T O q k := by
  intro k
  induction k with
  | zero => rfl
  | succ k ih =>
    unfold wayP
    rw [ih]
    have : pEn (mk T B) k q = pEn T k q := by simp [pEn, mk]
    rw [this]
set_option maxHeartbeats 4000000 in
theorem p_findWays {gS tT : GS} {T : NN} (hT : RT tT T) (hI : IT T) {O q h B : Nat} (hg : gS 1 h = nI q) (hq : q < T 0 0) (h4 : gS 0 4 = nI O) (hO : O < 4097) (h8 : gS 0 8 = nI B) (hB : B < 256) (hh : h < 8) (fR : Nat → Int32) : ∃ f', MX1_findWays gS fR tT (nI h) = some (nI (wayF (mk T B) O q h).length, f') ∧ rowOf f' (wayF (mk T B) O q h) := by
  have i0 := hI.1.1
  have i1 := hI.1.2.1
  have ik := hI.2.2.1 h hh
  have l1 : nx (T 0 0) q < T 0 0 := nx_lt (by omega)
  have l2 : nx (T 0 0) (nx (T 0 0) q) < T 0 0 := nx_lt (by omega)
  have l3 : pv (T 0 0) q < T 0 0 := pv_lt hq
  have hn1 := p_next hT hI (q := q) (by omega)
  have hn2 := p_next hT hI (q := nx (T 0 0) q) (by omega)
  have hp := p_previous hT hI hq
  have E1 := p_isEmpty (gS := gS) h4 hO (q := nx (T 0 0) q) (by omega)
  have E3 := p_isEmpty (gS := gS) h4 hO (q := nx (T 0 0) (nx (T 0 0) q)) (by omega)
  have E2 := p_isEmpty (gS := gS) h4 hO (q := pv (T 0 0) q) (by omega)
  have hb : (gS 0 8 >>> (nI h &&& nI 31)) &&& nI 1 = bI (B.testBit h) := by rw [h8, bit_n (by omega) (by omega)]
  have h2 := hT.2.2.1 h hh
  have hkk : T 2 h = 0 ∨ T 2 h = 1 ∨ T 2 h = 2 ∨ T 2 h = 3 := by omega
  unfold MX1_findWays
  rcases hkk with hk | hk | hk | hk
  · have hK : mk T B 2 h = 0 := by simp [mk, hk]
    cases e1 : O.testBit (nx (T 0 0) q) <;> cases e2 : O.testBit (pv (T 0 0) q)
    · have hw : wayF (mk T B) O q h = [nx (T 0 0) q, pv (T 0 0) q] := by simp [wayF, hK, mk_r, mk_wayP, e1, e2]
      rw [hw]
      simp (disch := omega) only [nm, jn0, jn1, jn2, jn3, jn4, jn5, bnd1_s, bnd2_s, bnd3_s, bnd4_s, lit_n, neg1, chkI_n, chkZ_n, chkC_n, bI_B, chkB_0, chkB_1, bI_t, bI_f, clamp_n, nI_add, subn, remn2, nat_rem, divn, pk_mul, ifle_t, ifle_f, iflt_t, iflt_f, ifeq_t, ifeq_f, ifm_f, ifm_t, if_true, if_false, h2, hk, hg, hn1, hn2, hp, E1, E2, E3, e1, e2, Bool.not_true, Bool.not_false, Nat.zero_add, Nat.reduceAdd]
      exact ⟨_, rfl, (rowOf_add (L := [nx (T 0 0) q]) (e := pv (T 0 0) q) (rowOf_add (L := []) (e := nx (T 0 0) q) rowOf_nil))⟩
    · have hw : wayF (mk T B) O q h = [nx (T 0 0) q] := by simp [wayF, hK, mk_r, mk_wayP, e1, e2]
      rw [hw]
      simp (disch := omega) only [nm, jn0, jn1, jn2, jn3, jn4, jn5, bnd1_s, bnd2_s, bnd3_s, bnd4_s, lit_n, neg1, chkI_n, chkZ_n, chkC_n, bI_B, chkB_0, chkB_1, bI_t, bI_f, clamp_n, nI_add, subn, remn2, nat_rem, divn, pk_mul, ifle_t, ifle_f, iflt_t, iflt_f, ifeq_t, ifeq_f, ifm_f, ifm_t, if_true, if_false, h2, hk, hg, hn1, hn2, hp, E1, E2, E3, e1, e2, Bool.not_true, Bool.not_false, Nat.zero_add, Nat.reduceAdd]
      exact ⟨_, rfl, (rowOf_add (L := []) (e := nx (T 0 0) q) rowOf_nil)⟩
    · have hw : wayF (mk T B) O q h = [pv (T 0 0) q] := by simp [wayF, hK, mk_r, mk_wayP, e1, e2]
      rw [hw]
      simp (disch := omega) only [nm, jn0, jn1, jn2, jn3, jn4, jn5, bnd1_s, bnd2_s, bnd3_s, bnd4_s, lit_n, neg1, chkI_n, chkZ_n, chkC_n, bI_B, chkB_0, chkB_1, bI_t, bI_f, clamp_n, nI_add, subn, remn2, nat_rem, divn, pk_mul, ifle_t, ifle_f, iflt_t, iflt_f, ifeq_t, ifeq_f, ifm_f, ifm_t, if_true, if_false, h2, hk, hg, hn1, hn2, hp, E1, E2, E3, e1, e2, Bool.not_true, Bool.not_false, Nat.zero_add, Nat.reduceAdd]
      exact ⟨_, rfl, (rowOf_add (L := []) (e := pv (T 0 0) q) rowOf_nil)⟩
    · have hw : wayF (mk T B) O q h = [] := by simp [wayF, hK, mk_r, mk_wayP, e1, e2]
      rw [hw]
      simp (disch := omega) only [nm, jn0, jn1, jn2, jn3, jn4, jn5, bnd1_s, bnd2_s, bnd3_s, bnd4_s, lit_n, neg1, chkI_n, chkZ_n, chkC_n, bI_B, chkB_0, chkB_1, bI_t, bI_f, clamp_n, nI_add, subn, remn2, nat_rem, divn, pk_mul, ifle_t, ifle_f, iflt_t, iflt_f, ifeq_t, ifeq_f, ifm_f, ifm_t, if_true, if_false, h2, hk, hg, hn1, hn2, hp, E1, E2, E3, e1, e2, Bool.not_true, Bool.not_false, Nat.zero_add, Nat.reduceAdd]
      exact ⟨_, rfl, rowOf_nil⟩
  · have hK : mk T B 2 h = 1 := by simp [mk, hk]
    cases e1 : O.testBit (nx (T 0 0) q) <;> cases e2 : O.testBit (pv (T 0 0) q)
    · have hw : wayF (mk T B) O q h = [nx (T 0 0) q, pv (T 0 0) q] ++ wayP T O q (T 0 2) := by simp [wayF, hK, mk_r, mk_wayP, e1, e2]
      rw [hw]
      obtain ⟨f9, hf, hr⟩ := p_findPathWays (gS := gS) hT hI h4 hO hq (L := [nx (T 0 0) q, pv (T 0 0) q]) (f := upd (upd fR 0 (nI (nx (T 0 0) q))) 1 (nI (pv (T 0 0) q))) (by simp) ((rowOf_add (L := [nx (T 0 0) q]) (e := pv (T 0 0) q) (rowOf_add (L := []) (e := nx (T 0 0) q) rowOf_nil)))
      simp only [List.length_cons, List.length_nil, Nat.zero_add, Nat.reduceAdd] at hf
      simp (disch := omega) only [nm, jn0, jn1, jn2, jn3, jn4, jn5, bnd1_s, bnd2_s, bnd3_s, bnd4_s, lit_n, neg1, chkI_n, chkZ_n, chkC_n, bI_B, chkB_0, chkB_1, bI_t, bI_f, clamp_n, nI_add, subn, remn2, nat_rem, divn, pk_mul, ifle_t, ifle_f, iflt_t, iflt_f, ifeq_t, ifeq_f, ifm_f, ifm_t, if_true, if_false, h2, hk, hg, hn1, hn2, hp, E1, E2, E3, e1, e2, Bool.not_true, Bool.not_false, Nat.zero_add, Nat.reduceAdd, hf]
      exact ⟨f9, rfl, hr⟩
    · have hw : wayF (mk T B) O q h = [nx (T 0 0) q] ++ wayP T O q (T 0 2) := by simp [wayF, hK, mk_r, mk_wayP, e1, e2]
      rw [hw]
      obtain ⟨f9, hf, hr⟩ := p_findPathWays (gS := gS) hT hI h4 hO hq (L := [nx (T 0 0) q]) (f := upd fR 0 (nI (nx (T 0 0) q))) (by simp) ((rowOf_add (L := []) (e := nx (T 0 0) q) rowOf_nil))
      simp only [List.length_cons, List.length_nil, Nat.zero_add, Nat.reduceAdd] at hf
      simp (disch := omega) only [nm, jn0, jn1, jn2, jn3, jn4, jn5, bnd1_s, bnd2_s, bnd3_s, bnd4_s, lit_n, neg1, chkI_n, chkZ_n, chkC_n, bI_B, chkB_0, chkB_1, bI_t, bI_f, clamp_n, nI_add, subn, remn2, nat_rem, divn, pk_mul, ifle_t, ifle_f, iflt_t, iflt_f, ifeq_t, ifeq_f, ifm_f, ifm_t, if_true, if_false, h2, hk, hg, hn1, hn2, hp, E1, E2, E3, e1, e2, Bool.not_true, Bool.not_false, Nat.zero_add, Nat.reduceAdd, hf]
      exact ⟨f9, rfl, hr⟩
    · have hw : wayF (mk T B) O q h = [pv (T 0 0) q] ++ wayP T O q (T 0 2) := by simp [wayF, hK, mk_r, mk_wayP, e1, e2]
      rw [hw]
      obtain ⟨f9, hf, hr⟩ := p_findPathWays (gS := gS) hT hI h4 hO hq (L := [pv (T 0 0) q]) (f := upd fR 0 (nI (pv (T 0 0) q))) (by simp) ((rowOf_add (L := []) (e := pv (T 0 0) q) rowOf_nil))
      simp only [List.length_cons, List.length_nil, Nat.zero_add, Nat.reduceAdd] at hf
      simp (disch := omega) only [nm, jn0, jn1, jn2, jn3, jn4, jn5, bnd1_s, bnd2_s, bnd3_s, bnd4_s, lit_n, neg1, chkI_n, chkZ_n, chkC_n, bI_B, chkB_0, chkB_1, bI_t, bI_f, clamp_n, nI_add, subn, remn2, nat_rem, divn, pk_mul, ifle_t, ifle_f, iflt_t, iflt_f, ifeq_t, ifeq_f, ifm_f, ifm_t, if_true, if_false, h2, hk, hg, hn1, hn2, hp, E1, E2, E3, e1, e2, Bool.not_true, Bool.not_false, Nat.zero_add, Nat.reduceAdd, hf]
      exact ⟨f9, rfl, hr⟩
    · have hw : wayF (mk T B) O q h = [] ++ wayP T O q (T 0 2) := by simp [wayF, hK, mk_r, mk_wayP, e1, e2]
      rw [hw]
      obtain ⟨f9, hf, hr⟩ := p_findPathWays (gS := gS) hT hI h4 hO hq (L := []) (f := fR) (by simp) (rowOf_nil)
      simp only [List.length_cons, List.length_nil, Nat.zero_add, Nat.reduceAdd] at hf
      simp (disch := omega) only [nm, jn0, jn1, jn2, jn3, jn4, jn5, bnd1_s, bnd2_s, bnd3_s, bnd4_s, lit_n, neg1, chkI_n, chkZ_n, chkC_n, bI_B, chkB_0, chkB_1, bI_t, bI_f, clamp_n, nI_add, subn, remn2, nat_rem, divn, pk_mul, ifle_t, ifle_f, iflt_t, iflt_f, ifeq_t, ifeq_f, ifm_f, ifm_t, if_true, if_false, h2, hk, hg, hn1, hn2, hp, E1, E2, E3, e1, e2, Bool.not_true, Bool.not_false, Nat.zero_add, Nat.reduceAdd, hf]
      exact ⟨f9, rfl, hr⟩
  · cases eb : B.testBit h
    · have hw : wayF (mk T B) O q h = [] := by simp [wayF, mk, hk, eb]
      rw [hw]
      simp (disch := omega) only [nm, jn0, jn1, jn2, jn3, jn4, jn5, bnd1_s, bnd2_s, bnd3_s, bnd4_s, lit_n, neg1, chkI_n, chkZ_n, chkC_n, bI_B, chkB_0, chkB_1, bI_t, bI_f, clamp_n, nI_add, subn, remn2, nat_rem, divn, pk_mul, ifle_t, ifle_f, iflt_t, iflt_f, ifeq_t, ifeq_f, ifm_f, ifm_t, if_true, if_false, h2, hk, hb, eb]
      exact ⟨_, rfl, rowOf_nil⟩
    · have hK : mk T B 2 h = 0 := by simp [mk, hk, eb]
      cases e1 : O.testBit (nx (T 0 0) q) <;> cases e2 : O.testBit (pv (T 0 0) q)
      · have hw : wayF (mk T B) O q h = [nx (T 0 0) q, pv (T 0 0) q] := by simp [wayF, hK, mk_r, mk_wayP, e1, e2]
        rw [hw]
        simp (disch := omega) only [nm, jn0, jn1, jn2, jn3, jn4, jn5, bnd1_s, bnd2_s, bnd3_s, bnd4_s, lit_n, neg1, chkI_n, chkZ_n, chkC_n, bI_B, chkB_0, chkB_1, bI_t, bI_f, clamp_n, nI_add, subn, remn2, nat_rem, divn, pk_mul, ifle_t, ifle_f, iflt_t, iflt_f, ifeq_t, ifeq_f, ifm_f, ifm_t, if_true, if_false, h2, hk, hg, hn1, hn2, hp, E1, E2, E3, e1, e2, Bool.not_true, Bool.not_false, Nat.zero_add, Nat.reduceAdd, hb, eb]
        exact ⟨_, rfl, (rowOf_add (L := [nx (T 0 0) q]) (e := pv (T 0 0) q) (rowOf_add (L := []) (e := nx (T 0 0) q) rowOf_nil))⟩
      · have hw : wayF (mk T B) O q h = [nx (T 0 0) q] := by simp [wayF, hK, mk_r, mk_wayP, e1, e2]
        rw [hw]
        simp (disch := omega) only [nm, jn0, jn1, jn2, jn3, jn4, jn5, bnd1_s, bnd2_s, bnd3_s, bnd4_s, lit_n, neg1, chkI_n, chkZ_n, chkC_n, bI_B, chkB_0, chkB_1, bI_t, bI_f, clamp_n, nI_add, subn, remn2, nat_rem, divn, pk_mul, ifle_t, ifle_f, iflt_t, iflt_f, ifeq_t, ifeq_f, ifm_f, ifm_t, if_true, if_false, h2, hk, hg, hn1, hn2, hp, E1, E2, E3, e1, e2, Bool.not_true, Bool.not_false, Nat.zero_add, Nat.reduceAdd, hb, eb]
        exact ⟨_, rfl, (rowOf_add (L := []) (e := nx (T 0 0) q) rowOf_nil)⟩
      · have hw : wayF (mk T B) O q h = [pv (T 0 0) q] := by simp [wayF, hK, mk_r, mk_wayP, e1, e2]
        rw [hw]
        simp (disch := omega) only [nm, jn0, jn1, jn2, jn3, jn4, jn5, bnd1_s, bnd2_s, bnd3_s, bnd4_s, lit_n, neg1, chkI_n, chkZ_n, chkC_n, bI_B, chkB_0, chkB_1, bI_t, bI_f, clamp_n, nI_add, subn, remn2, nat_rem, divn, pk_mul, ifle_t, ifle_f, iflt_t, iflt_f, ifeq_t, ifeq_f, ifm_f, ifm_t, if_true, if_false, h2, hk, hg, hn1, hn2, hp, E1, E2, E3, e1, e2, Bool.not_true, Bool.not_false, Nat.zero_add, Nat.reduceAdd, hb, eb]
        exact ⟨_, rfl, (rowOf_add (L := []) (e := pv (T 0 0) q) rowOf_nil)⟩
      · have hw : wayF (mk T B) O q h = [] := by simp [wayF, hK, mk_r, mk_wayP, e1, e2]
        rw [hw]
        simp (disch := omega) only [nm, jn0, jn1, jn2, jn3, jn4, jn5, bnd1_s, bnd2_s, bnd3_s, bnd4_s, lit_n, neg1, chkI_n, chkZ_n, chkC_n, bI_B, chkB_0, chkB_1, bI_t, bI_f, clamp_n, nI_add, subn, remn2, nat_rem, divn, pk_mul, ifle_t, ifle_f, iflt_t, iflt_f, ifeq_t, ifeq_f, ifm_f, ifm_t, if_true, if_false, h2, hk, hg, hn1, hn2, hp, E1, E2, E3, e1, e2, Bool.not_true, Bool.not_false, Nat.zero_add, Nat.reduceAdd, hb, eb]
        exact ⟨_, rfl, rowOf_nil⟩
  · have hK : mk T B 2 h = 3 := by simp [mk, hk]
    cases e1 : O.testBit (nx (T 0 0) (nx (T 0 0) q)) <;> cases e2 : O.testBit (pv (T 0 0) q)
    · have hw : wayF (mk T B) O q h = [nx (T 0 0) q, pv (T 0 0) q] := by simp [wayF, hK, mk_r, mk_wayP, e1, e2]
      rw [hw]
      simp (disch := omega) only [nm, jn0, jn1, jn2, jn3, jn4, jn5, bnd1_s, bnd2_s, bnd3_s, bnd4_s, lit_n, neg1, chkI_n, chkZ_n, chkC_n, bI_B, chkB_0, chkB_1, bI_t, bI_f, clamp_n, nI_add, subn, remn2, nat_rem, divn, pk_mul, ifle_t, ifle_f, iflt_t, iflt_f, ifeq_t, ifeq_f, ifm_f, ifm_t, if_true, if_false, h2, hk, hg, hn1, hn2, hp, E1, E2, E3, e1, e2, Bool.not_true, Bool.not_false, Nat.zero_add, Nat.reduceAdd]
      exact ⟨_, rfl, (rowOf_add (L := [nx (T 0 0) q]) (e := pv (T 0 0) q) (rowOf_add (L := []) (e := nx (T 0 0) q) rowOf_nil))⟩
    · have hw : wayF (mk T B) O q h = [nx (T 0 0) q] := by simp [wayF, hK, mk_r, mk_wayP, e1, e2]
      rw [hw]
      simp (disch := omega) only [nm, jn0, jn1, jn2, jn3, jn4, jn5, bnd1_s, bnd2_s, bnd3_s, bnd4_s, lit_n, neg1, chkI_n, chkZ_n, chkC_n, bI_B, chkB_0, chkB_1, bI_t, bI_f, clamp_n, nI_add, subn, remn2, nat_rem, divn, pk_mul, ifle_t, ifle_f, iflt_t, iflt_f, ifeq_t, ifeq_f, ifm_f, ifm_t, if_true, if_false, h2, hk, hg, hn1, hn2, hp, E1, E2, E3, e1, e2, Bool.not_true, Bool.not_false, Nat.zero_add, Nat.reduceAdd]
      exact ⟨_, rfl, (rowOf_add (L := []) (e := nx (T 0 0) q) rowOf_nil)⟩
    · have hw : wayF (mk T B) O q h = [pv (T 0 0) q] := by simp [wayF, hK, mk_r, mk_wayP, e1, e2]
      rw [hw]
      simp (disch := omega) only [nm, jn0, jn1, jn2, jn3, jn4, jn5, bnd1_s, bnd2_s, bnd3_s, bnd4_s, lit_n, neg1, chkI_n, chkZ_n, chkC_n, bI_B, chkB_0, chkB_1, bI_t, bI_f, clamp_n, nI_add, subn, remn2, nat_rem, divn, pk_mul, ifle_t, ifle_f, iflt_t, iflt_f, ifeq_t, ifeq_f, ifm_f, ifm_t, if_true, if_false, h2, hk, hg, hn1, hn2, hp, E1, E2, E3, e1, e2, Bool.not_true, Bool.not_false, Nat.zero_add, Nat.reduceAdd]
      exact ⟨_, rfl, (rowOf_add (L := []) (e := pv (T 0 0) q) rowOf_nil)⟩
    · have hw : wayF (mk T B) O q h = [] := by simp [wayF, hK, mk_r, mk_wayP, e1, e2]
      rw [hw]
      simp (disch := omega) only [nm, jn0, jn1, jn2, jn3, jn4, jn5, bnd1_s, bnd2_s, bnd3_s, bnd4_s, lit_n, neg1, chkI_n, chkZ_n, chkC_n, bI_B, chkB_0, chkB_1, bI_t, bI_f, clamp_n, nI_add, subn, remn2, nat_rem, divn, pk_mul, ifle_t, ifle_f, iflt_t, iflt_f, ifeq_t, ifeq_f, ifm_f, ifm_t, if_true, if_false, h2, hk, hg, hn1, hn2, hp, E1, E2, E3, e1, e2, Bool.not_true, Bool.not_false, Nat.zero_add, Nat.reduceAdd]
      exact ⟨_, rfl, rowOf_nil⟩
