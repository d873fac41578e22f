/-! a night in the reference -/
theorem r_lotRoll {mM : GS} {T S : NN} {num : Nat} (hM : RM mM T) (hI : IT T) (hN : RN mM T S) (hS : IS T S) (hnum : num < tot T (S 1) (T 0 1)) : ∃ m' b, lq3 (BX5_goLot_68 (fun (mM_12 : GS) => some (mM_12)) (fun (x14 : Int32) (x15 : Int32) (mM_16 : GS) => chkI x14 8 (bnd1 (MX5_rollTo mM_16 x15 (mM_16 13 x14.toNatClampNeg)) fun (mM_19 : GS) => some (mM_19)))) FU (nI num) (nI 0) mM = some m' ∧ fNs mM m' ∧ lotH T S num = some b ∧ RN m' T (tU (tU S 1 b ((ways T (S 1) b).getD (num - tot T (S 1) b) 0)) 2 b (S 0 5 + 1)) := by
  have i2 := hI.1.2.2.1
  obtain ⟨b, hb, hb1, hb2, hb3⟩ := lotH_ok hnum
  have htl := tot_len (P := S 1) hI (k := T 0 1)
  have hbl : num - tot T (S 1) b < (ways T (S 1) b).length := by rw [tot_s] at hb3; omega
  have key := lq3_rel (f := BX5_goLot_68 (fun (mM_12 : GS) => some (mM_12)) (fun (x14 : Int32) (x15 : Int32) (mM_16 : GS) => chkI x14 8 (bnd1 (MX5_rollTo mM_16 x15 (mM_16 13 x14.toNatClampNeg)) fun (mM_19 : GS) => some (mM_19)))) (fun i x y (g : GS) => i ≤ b ∧ x = nI (num - tot T (S 1) i) ∧ y = nI i ∧ fWs mM g) b (fun r => ∃ m', r = some m' ∧ fNs mM m' ∧ RN m' T (tU (tU S 1 b ((ways T (S 1) b).getD (num - tot T (S 1) b) 0)) 2 b (S 0 5 + 1))) ?_ (nI num) (nI 0) mM ⟨Nat.zero_le _, rfl, rfl, fWs.refl⟩ (FU_lt (by omega))
  · obtain ⟨m', e, f, n⟩ := key
    exact ⟨m', b, e, f, hb, n⟩
  rintro i x y g hi ⟨-, rfl, rfl, fg⟩
  have Mg := hM.fN fg.n
  have Ng := hN.fW fg
  have g1 := Mg.1.2.1
  obtain ⟨g', ha, fa, wa⟩ := r_layWays Mg hI Ng.1 hS.1 (h := i) (by omega)
  have hli := ways_len (P := S 1) (h := i) hI
  have w0 := wa.1
  by_cases c : i < b
  · have hm : tot T (S 1) (i + 1) ≤ tot T (S 1) b := tot_mono (by omega)
    have ht : tot T (S 1) (i + 1) = tot T (S 1) i + (ways T (S 1) i).length := rfl
    refine Or.inl ⟨c, nI (num - tot T (S 1) (i + 1)), nI (i + 1), g', ⟨by omega, rfl, rfl, fg.trans fa⟩, fun rec => ?_⟩
    unfold BX5_goLot_68
    simp (disch := omega) only [nm, jn0, jn1, jn2, jn3, jn4, jn5, bnd1_s, bnd2_s, bnd3_s, bnd4_s, lit_n, neg1, chkI_n, chkZ_n, chkC_n, bI_B, chkB_0, chkB_1, bI_t, bI_f, clamp_n, nI_add, subn, remn2, nat_rem, divn, pk_mul, ifle_t, ifle_f, iflt_t, iflt_f, ifeq_t, ifeq_f, ifm_f, ifm_t, if_true, if_false, g1, ha, w0]
    rw [show num - tot T (S 1) i - (ways T (S 1) i).length = num - tot T (S 1) (i + 1) by omega]
  · have : i = b := by omega
    subst this
    have e := wa.2 _ hbl
    have e2 : (ways T (S 1) i)[num - tot T (S 1) i] = (ways T (S 1) i).getD (num - tot T (S 1) i) 0 := by
      rw [List.getD_eq_getElem?_getD, List.getElem?_eq_getElem hbl]
      rfl
    rw [e2] at e
    obtain ⟨m', r1, r2, r3⟩ := r_rollTo hI (hN.fW (fg.trans fa)) (h := i) (q := (ways T (S 1) i).getD (num - tot T (S 1) i) 0) hb1
    refine Or.inr ⟨_, ⟨m', rfl, ((fg.trans fa).n).trans r2, r3⟩, fun rec => ?_⟩
    unfold BX5_goLot_68
    simp (disch := omega) only [nm, jn0, jn1, jn2, jn3, jn4, jn5, bnd1_s, bnd2_s, bnd3_s, bnd4_s, lit_n, neg1, chkI_n, chkZ_n, chkC_n, bI_B, chkB_0, chkB_1, bI_t, bI_f, clamp_n, nI_add, subn, remn2, nat_rem, divn, pk_mul, ifle_t, ifle_f, iflt_t, iflt_f, ifeq_t, ifeq_f, ifm_f, ifm_t, if_true, if_false, g1, ha, w0, e, r1]
def lotS (T S : NN) : NN := if tot T (S 1) (T 0 1) = 0 then S else
  match lotH T S (16807 * S 0 7 % 65521 % tot T (S 1) (T 0 1)) with
  | none => S
  | some h => tU (tU (tU S 0 7 (16807 * S 0 7 % 65521)) 1 h ((ways T (S 1) h).getD (16807 * S 0 7 % 65521 % tot T (S 1) (T 0 1) - tot T (S 1) h) 0)) 2 h (S 0 5 + 1)
theorem r_goLot {mM : GS} {T S : NN} (hM : RM mM T) (hI : IT T) (hN : RN mM T S) (hS : IS T S) : ∃ m', MX5_goLot mM = some m' ∧ fNs mM m' ∧ RN m' T (lotS T S) := by
  have i2 := hI.1.2.2.1
  have htl := tot_len (P := S 1) hI (k := T 0 1)
  have hx := hS.2.2.2.1
  unfold MX5_goLot jn2
  refine lq3_rel (fun i x y (g : GS) => x = nI (tot T (S 1) i) ∧ y = nI i ∧ fWs mM g) (T 0 1) (fun r => ∃ m', r = some m' ∧ fNs mM m' ∧ RN m' T (lotS T S)) ?_ _ _ _ ⟨rfl, rfl, fWs.refl⟩ (FU_lt (by omega))
  rintro i x y g hi ⟨rfl, rfl, fg⟩
  have Mg := hM.fN fg.n
  have Ng := hN.fW fg
  have g1 := Mg.1.2.1
  by_cases c : i < T 0 1
  · obtain ⟨g', ha, fa, wa⟩ := r_layWays Mg hI Ng.1 hS.1 (h := i) c
    have w0 := wa.1
    refine Or.inl ⟨c, nI (tot T (S 1) (i + 1)), nI (i + 1), g', ⟨rfl, rfl, fg.trans fa⟩, fun rec => ?_⟩
    unfold BX5_goLot_4
    simp (disch := omega) only [nm, jn0, jn1, jn2, jn3, jn4, jn5, bnd1_s, bnd2_s, bnd3_s, bnd4_s, lit_n, neg1, chkI_n, chkZ_n, chkC_n, bI_B, chkB_0, chkB_1, bI_t, bI_f, clamp_n, nI_add, subn, remn2, nat_rem, divn, pk_mul, ifle_t, ifle_f, iflt_t, iflt_f, ifeq_t, ifeq_f, ifm_f, ifm_t, if_true, if_false, g1, ha, w0]
    rfl
  · have : i = T 0 1 := by omega
    subst this
    by_cases d : tot T (S 1) (T 0 1) = 0
    · refine Or.inr ⟨_, ⟨g, rfl, fg.n, ?_⟩, fun rec => ?_⟩
      · unfold lotS; rw [if_pos d]; exact Ng
      · unfold BX5_goLot_4
        simp (disch := omega) only [nm, jn0, jn1, jn2, jn3, jn4, jn5, bnd1_s, bnd2_s, bnd3_s, bnd4_s, lit_n, neg1, chkI_n, chkZ_n, chkC_n, bI_B, chkB_0, chkB_1, bI_t, bI_f, clamp_n, nI_add, subn, remn2, nat_rem, divn, pk_mul, ifle_t, ifle_f, iflt_t, iflt_f, ifeq_t, ifeq_f, ifm_f, ifm_t, if_true, if_false, g1, d]
    · have e7 := Ng.2.2.2.2
      have N8 := RN_18 (v := 16807 * S 0 7 % 65521) hI Ng
      have hm : 16807 * S 0 7 % 65521 < 65521 := Nat.mod_lt _ (by decide)
      have S8 := IS_x hS hm
      have e1 : (tU S 0 7 (16807 * S 0 7 % 65521)) 1 = S 1 := by funext a; simp [tU]
      have e5 : (tU S 0 7 (16807 * S 0 7 % 65521)) 0 5 = S 0 5 := by simp [tU]
      have hlt : 16807 * S 0 7 % 65521 % tot T (S 1) (T 0 1) < tot T (S 1) (T 0 1) := Nat.mod_lt _ (by omega)
      obtain ⟨m', b, q1, q2, q3, q4⟩ := r_lotRoll (Mg.fN fNs_p8) hI N8 S8 (num := 16807 * S 0 7 % 65521 % tot T (S 1) (T 0 1)) (by rw [e1]; exact hlt)
      rw [e1, e5] at q4
      have q3' : lotH T S (16807 * S 0 7 % 65521 % tot T (S 1) (T 0 1)) = some b := by
        unfold lotH at q3 ⊢
        rw [e1] at q3
        exact q3
      refine Or.inr ⟨some m', ⟨m', rfl, fg.n.trans (fNs_p8.trans q2), ?_⟩, fun rec => ?_⟩
      · unfold lotS; rw [if_neg d, q3']; exact q4
      · unfold BX5_goLot_4
        simp (disch := omega) only [nm, jn0, jn1, jn2, jn3, jn4, jn5, bnd1_s, bnd2_s, bnd3_s, bnd4_s, lit_n, neg1, chkI_n, chkZ_n, chkC_n, bI_B, chkB_0, chkB_1, bI_t, bI_f, clamp_n, nI_add, subn, remn2, nat_rem, divn, pk_mul, ifle_t, ifle_f, iflt_t, iflt_f, ifeq_t, ifeq_f, ifm_f, ifm_t, if_true, if_false, g1, e7, up2_s, up2_r, up2_n, upA_s, upA_r, pk_us, pk_un, cpy_n]
        exact q1
theorem nx_mod {n h : Nat} (h0 : h < n) : (h + 1) % n = nx n h := by
  have := modstep (n := n) (m := h) (by omega)
  rwa [Nat.mod_eq_of_lt h0] at this
theorem r_goNight {mM : GS} {T S : NN} {law : Nat} (hM : RM mM T) (hI : IT T) (hN : RN mM T S) (hS : IS T S) (hl : mM 0 34 = nI law) (hlaw : law ≤ 3) (hNb : S 0 5 < 100000) : ∃ m', MX5_goNight mM = some m' ∧ fNs mM m' ∧ RN m' T (night T law S) := by
  have i2 := hI.1.2.2.1
  unfold MX5_goNight night
  by_cases c3 : law = 3
  · rw [if_pos c3]
    obtain ⟨m', h1, h2, h3⟩ := r_goLot hM hI hN hS
    have e16 : m' 8 16 = nI (S 0 5) := by
      have := h3.2.2.1
      rw [this]
      unfold lotS
      split
      · rfl
      · cases lotH T S (16807 * S 0 7 % 65521 % tot T (S 1) (T 0 1)) with
        | none => rfl
        | some h => simp [tU]
    have h4 := RN_16 (v := S 0 5 + 1) hI h3
    simp (disch := omega) only [nm, jn0, jn1, jn2, jn3, jn4, jn5, bnd1_s, bnd2_s, bnd3_s, bnd4_s, lit_n, neg1, chkI_n, chkZ_n, chkC_n, bI_B, chkB_0, chkB_1, bI_t, bI_f, clamp_n, nI_add, subn, remn2, nat_rem, divn, pk_mul, ifle_t, ifle_f, iflt_t, iflt_f, ifeq_t, ifeq_f, ifm_f, ifm_t, if_true, if_false, hl, h1, e16]
    refine ⟨_, rfl, h2.trans fNs_p8, ?_⟩
    refine h4.congr ?_ ?_ ?_ ?_ ?_
    all_goals unfold lotS
    all_goals by_cases d : tot T (S 1) (T 0 1) = 0
    all_goals simp only [d, if_true, if_false]
    all_goals try (cases lotH T S (16807 * S 0 7 % 65521 % tot T (S 1) (T 0 1)) <;> simp [tU, rol])
    all_goals simp [tU]
  · rw [if_neg c3]
    obtain ⟨m1, h1, h2⟩ := r_rolls hM hI hN hS hl hlaw hNb
    have M1 := hM.fN h2.n
    have N1 := hN.fW h2
    cases e : rlr T law S with
    | none =>
      rw [e] at h1
      have e16 := N1.2.2.1
      have h4 := RN_16 (v := S 0 5 + 1) hI N1
      simp (disch := omega) only [nm, jn0, jn1, jn2, jn3, jn4, jn5, bnd1_s, bnd2_s, bnd3_s, bnd4_s, lit_n, neg1, chkI_n, chkZ_n, chkC_n, bI_B, chkB_0, chkB_1, bI_t, bI_f, clamp_n, nI_add, subn, remn2, nat_rem, divn, pk_mul, ifle_t, ifle_f, iflt_t, iflt_f, ifeq_t, ifeq_f, ifm_f, ifm_t, if_true, if_false, hl, h1, oI, e16]
      exact ⟨_, rfl, h2.n.trans fNs_p8, h4⟩
    | some b =>
      rw [e] at h1
      obtain ⟨hb, hw⟩ := rlr_lt e
      have h0 := hasW_0 hw
      obtain ⟨m2, a1, a2, a3⟩ := r_layWays M1 hI N1.1 hS.1 hb
      have N2 := N1.fW a2
      have M2 := M1.fN a2.n
      have e2 : m2 13 0 = nI ((ways T (S 1) b).getD 0 0) := by
        rw [a3.2 0 h0, List.getD_eq_getElem?_getD, List.getElem?_eq_getElem h0]
        rfl
      obtain ⟨m3, b1, b2, b3⟩ := r_rollTo hI N2 (h := b) (q := (ways T (S 1) b).getD 0 0) hb
      have M3 := M2.fN b2
      have F3 := (h2.n.trans a2.n).trans b2
      have e34 : m3 0 34 = nI law := by rw [F3 0 34 (by decide) (by decide) (by decide)]; exact hl
      have g1 := M3.1.2.1
      have e17 : m3 8 17 = nI (S 0 6) := by rw [b3.2.2.2.1]; simp [tU]
      by_cases c1 : law = 1
      · have N4 := RN_17 (v := nx (T 0 1) b) hI b3
        have e16 : (p8 m3 17 (nx (T 0 1) b)) 8 16 = nI (S 0 5) := by rw [N4.2.2.1]; simp [tU]
        have N5 := RN_16 (v := S 0 5 + 1) hI N4
        have hp : upA m3 8 (upd (m3 8) 17 (nI ((b + 1) % T 0 1))) = p8 m3 17 (nx (T 0 1) b) := by rw [nx_mod hb]; rfl
        simp (disch := omega) only [nm, jn0, jn1, jn2, jn3, jn4, jn5, bnd1_s, bnd2_s, bnd3_s, bnd4_s, lit_n, neg1, chkI_n, chkZ_n, chkC_n, bI_B, chkB_0, chkB_1, bI_t, bI_f, clamp_n, nI_add, subn, remn2, nat_rem, divn, pk_mul, ifle_t, ifle_f, iflt_t, iflt_f, ifeq_t, ifeq_f, ifm_f, ifm_t, if_true, if_false, hl, h1, oI, a1, e2, b1, e34, g1, hp, e16]
        refine ⟨_, rfl, F3.trans (fNs_p8.trans fNs_p8), ?_⟩
        show RN _ T (rolT T S b _ law)
        refine N5.congr ?_ ?_ ?_ ?_ ?_
        all_goals simp [rolT, rol, tU, c1]
      · have N4 := RN_17 (v := S 0 6) hI b3
        have e16 : (p8 m3 17 (S 0 6)) 8 16 = nI (S 0 5) := by rw [N4.2.2.1]; simp [tU]
        have N5 := RN_16 (v := S 0 5 + 1) hI N4
        have hp : upA m3 8 (upd (m3 8) 17 (nI (S 0 6))) = p8 m3 17 (S 0 6) := rfl
        simp (disch := omega) only [nm, jn0, jn1, jn2, jn3, jn4, jn5, bnd1_s, bnd2_s, bnd3_s, bnd4_s, lit_n, neg1, chkI_n, chkZ_n, chkC_n, bI_B, chkB_0, chkB_1, bI_t, bI_f, clamp_n, nI_add, subn, remn2, nat_rem, divn, pk_mul, ifle_t, ifle_f, iflt_t, iflt_f, ifeq_t, ifeq_f, ifm_f, ifm_t, if_true, if_false, hl, h1, oI, a1, e2, b1, e34, g1, e17, hp, e16]
        refine ⟨_, rfl, F3.trans (fNs_p8.trans fNs_p8), ?_⟩
        show RN _ T (rolT T S b _ law)
        refine N5.congr ?_ ?_ ?_ ?_ ?_
        all_goals simp [rolT, rol, tU, c1]
