/-! ===== the simple calls ===== -/
theorem dsj_uniq {T : NN} {P : Nat → Nat} {a b q : Nat} (hd : dsj T P) (ha : a < T 0 1) (hb : b < T 0 1) (h1 : sOn T P a q = true) (h2 : sOn T P b q = true) : a = b := Decidable.byContradiction fun z => hd a b ha hb z q ⟨h1, h2⟩
theorem p_houseOn {gS tT : GS} {T S : NN} {q : Nat} (hT : RT tT T) (hI : IT T) (hR : RS gS T S 0) (hS : IS T S) (hq : q < T 0 0) : MX1_houseOn gS tT (nI q) = some (oI (fst1 (fun h => sOn T (S 1) h q) (T 0 1))) := by
  have i2 := hI.1.2.2.1
  have i1 := hI.1.2.1
  have t1 := hT.1.2.1
  have e12 := two_12 i1
  unfold MX1_houseOn
  simp only [jn0, jn1]
  refine lq1_rel (fun i x => x = nI i ∧ fst1 (fun h => sOn T (S 1) h q) i = none) (T 0 1) (fun r => r = some (oI (fst1 (fun h => sOn T (S 1) h q) (T 0 1)))) ?_ _ ⟨rfl, rfl⟩ (FU_lt (by omega))
  rintro i x hi ⟨rfl, hn⟩
  by_cases c : i < T 0 1
  · have hg := p_groundOf (gS := gS) hT hI (h := i) (by omega) (hR.1 i c) (hS.1 i c)
    have hl : gr (T 0 0) (T 2 i) (S 1 i) < 2 ^ T 0 0 := gr_lt (hS.1 i c)
    have hb := bit_n (a := gr (T 0 0) (T 2 i) (S 1 i)) (q := q) (by omega) (by omega)
    rw [sOn_gr] at hb
    have hs := fst1_s0 hn
    cases k : sOn T (S 1) i q with
    | true =>
      rw [k] at hb hs
      have e2 := fst1_mono (m := T 0 1) (hs.trans (if_pos rfl)) (by omega)
      refine Or.inr ⟨_, rfl, fun rec => ?_⟩
      unfold BX1_houseOn_2
      rw [e2]
      simp (disch := omega) only [nm, jn0, jn1, jn2, jn3, jn4, jn5, bnd1_s, bnd2_s, bnd3_s, bnd4_s, lit_n, neg1, chkI_n, chkZ_n, chkC_n, bI_B, chkB_0, chkB_1, bI_t, bI_f, clamp_n, nI_add, subn, remn2, nat_rem, divn, pk_mul, ifle_t, ifle_f, iflt_t, iflt_f, ifeq_t, ifeq_f, ifm_f, ifm_t, if_true, if_false, t1, hg, hb, oI]
    | false =>
      rw [k] at hb hs
      refine Or.inl ⟨c, nI (i + 1), ⟨rfl, by rw [hs]; simp⟩, fun rec => ?_⟩
      unfold BX1_houseOn_2
      simp (disch := omega) only [nm, jn0, jn1, jn2, jn3, jn4, jn5, bnd1_s, bnd2_s, bnd3_s, bnd4_s, lit_n, neg1, chkI_n, chkZ_n, chkC_n, bI_B, chkB_0, chkB_1, bI_t, bI_f, clamp_n, nI_add, subn, remn2, nat_rem, divn, pk_mul, ifle_t, ifle_f, iflt_t, iflt_f, ifeq_t, ifeq_f, ifm_f, ifm_t, if_true, if_false, t1, hg, hb]
  · have : i = T 0 1 := by omega
    subst this
    refine Or.inr ⟨_, rfl, fun rec => ?_⟩
    unfold BX1_houseOn_2
    rw [hn]
    simp (disch := omega) only [nm, jn0, jn1, jn2, jn3, jn4, jn5, bnd1_s, bnd2_s, bnd3_s, bnd4_s, lit_n, neg1, chkI_n, chkZ_n, chkC_n, bI_B, chkB_0, chkB_1, bI_t, bI_f, clamp_n, nI_add, subn, remn2, nat_rem, divn, pk_mul, ifle_t, ifle_f, iflt_t, iflt_f, ifeq_t, ifeq_f, ifm_f, ifm_t, if_true, if_false, t1, oI]
theorem f_plot {tT gN mM : GS} {T S : NN} (hB : BV tT gN mM T S) (i1 i2 : Int32) : ∃ r, MX4_plot tT gN i1 i2 = some r ∧ MX5_plot mM i1 i2 = some r := by
  obtain ⟨hT, hI, hR, hS, hNb, hM, hN⟩ := hB
  have i1' := hI.1.2.1
  have i2' := hI.1.2.2.1
  have m1 := hM.1.2.1
  unfold MX4_plot MX5_plot
  rcases isPlot_c hT hI hM i1 with ⟨h1, h2⟩ | ⟨q, hq, rfl, h1, h2⟩
  · simp (disch := omega) only [nm, jn0, jn1, jn2, jn3, jn4, jn5, bnd1_s, bnd2_s, bnd3_s, bnd4_s, lit_n, neg1, chkI_n, chkZ_n, chkC_n, bI_B, chkB_0, chkB_1, bI_t, bI_f, clamp_n, nI_add, subn, remn2, nat_rem, divn, pk_mul, ifle_t, ifle_f, iflt_t, iflt_f, ifeq_t, ifeq_f, ifm_f, ifm_t, if_true, if_false, h1, h2]
    exact ⟨_, rfl, rfl⟩
  · rcases arg i2 with k | ⟨w, hw, rfl⟩
    · have e := r_inN (i := i2) (hi := nI 1) (lo := 0) k (by decide)
      simp (disch := omega) only [nm, jn0, jn1, jn2, jn3, jn4, jn5, bnd1_s, bnd2_s, bnd3_s, bnd4_s, lit_n, neg1, chkI_n, chkZ_n, chkC_n, bI_B, chkB_0, chkB_1, bI_t, bI_f, clamp_n, nI_add, subn, remn2, nat_rem, divn, pk_mul, ifle_t, ifle_f, iflt_t, iflt_f, ifeq_t, ifeq_f, ifm_f, ifm_t, if_true, if_false, h1, h2, e, ifneg k]
      exact ⟨_, rfl, rfl⟩
    · have e := r_in (k := w) (lo := 0) (hi := 1) hw (by decide) (by decide)
      by_cases c : w ≤ 1
      · rw [decide_eq_true (by omega)] at e
        have hc := p_houseOn hT hI hR hS hq
        have c1 := hT.2.1 q (by omega)
        have c2 := hM.2.1 q (by omega)
        have loop : ∀ (k8 : Int32 → Option Int32), lq2 (BX5_plot_28 mM k8 (nI q)) FU mI (nI 0) = k8 (oI (fst1 (fun h => sOn T (S 1) h q) (T 0 1))) := by
          intro k8
          refine lq2_run (fun i => oI (fst1 (fun h => sOn T (S 1) h q) i)) nI (T 0 1) _ ?_ ?_ FU (FU_lt (by omega))
          · intro i hi rec
            have hs := r_standsOn hM hI hN.1 hS.1 hi (q := q) (by omega)
            unfold BX5_plot_28
            cases z : sOn T (S 1) i q with
            | true =>
              rw [z] at hs
              have : fst1 (fun h => sOn T (S 1) h q) (i + 1) = some i := by
                cases y : fst1 (fun h => sOn T (S 1) h q) i with
                | none => rw [fst1_s0 y, z]; simp
                | some a =>
                  obtain ⟨y1, y2, -⟩ := fst1_some.mp y
                  have := dsj_uniq hS.2.1 (by omega) hi y2 z
                  omega
              rw [this]
              simp (disch := omega) only [nm, jn0, jn1, jn2, jn3, jn4, jn5, bnd1_s, bnd2_s, bnd3_s, bnd4_s, lit_n, neg1, chkI_n, chkZ_n, chkC_n, bI_B, chkB_0, chkB_1, bI_t, bI_f, clamp_n, nI_add, subn, remn2, nat_rem, divn, pk_mul, ifle_t, ifle_f, iflt_t, iflt_f, ifeq_t, ifeq_f, ifm_f, ifm_t, if_true, if_false, m1, hs, oI]
            | false =>
              rw [z] at hs
              have : fst1 (fun h => sOn T (S 1) h q) (i + 1) = fst1 (fun h => sOn T (S 1) h q) i := by
                cases y : fst1 (fun h => sOn T (S 1) h q) i with
                | none => rw [fst1_s0 y, z]; simp
                | some a => exact fst1_mono y (by omega)
              rw [this]
              simp (disch := omega) only [nm, jn0, jn1, jn2, jn3, jn4, jn5, bnd1_s, bnd2_s, bnd3_s, bnd4_s, lit_n, neg1, chkI_n, chkZ_n, chkC_n, bI_B, chkB_0, chkB_1, bI_t, bI_f, clamp_n, nI_add, subn, remn2, nat_rem, divn, pk_mul, ifle_t, ifle_f, iflt_t, iflt_f, ifeq_t, ifeq_f, ifm_f, ifm_t, if_true, if_false, m1, hs]
          · intro rec
            unfold BX5_plot_28
            simp (disch := omega) only [nm, jn0, jn1, jn2, jn3, jn4, jn5, bnd1_s, bnd2_s, bnd3_s, bnd4_s, lit_n, neg1, chkI_n, chkZ_n, chkC_n, bI_B, chkB_0, chkB_1, bI_t, bI_f, clamp_n, nI_add, subn, remn2, nat_rem, divn, pk_mul, ifle_t, ifle_f, iflt_t, iflt_f, ifeq_t, ifeq_f, ifm_f, ifm_t, if_true, if_false, m1]
        by_cases d : w = 0
        · simp (disch := omega) only [nm, jn0, jn1, jn2, jn3, jn4, jn5, bnd1_s, bnd2_s, bnd3_s, bnd4_s, lit_n, neg1, chkI_n, chkZ_n, chkC_n, bI_B, chkB_0, chkB_1, bI_t, bI_f, clamp_n, nI_add, subn, remn2, nat_rem, divn, pk_mul, ifle_t, ifle_f, iflt_t, iflt_f, ifeq_t, ifeq_f, ifm_f, ifm_t, if_true, if_false, h1, h2, e, hc, loop]
          exact ⟨_, rfl, rfl⟩
        · simp (disch := omega) only [nm, jn0, jn1, jn2, jn3, jn4, jn5, bnd1_s, bnd2_s, bnd3_s, bnd4_s, lit_n, neg1, chkI_n, chkZ_n, chkC_n, bI_B, chkB_0, chkB_1, bI_t, bI_f, clamp_n, nI_add, subn, remn2, nat_rem, divn, pk_mul, ifle_t, ifle_f, iflt_t, iflt_f, ifeq_t, ifeq_f, ifm_f, ifm_t, if_true, if_false, h1, h2, e, loop, c1, c2]
          exact ⟨_, rfl, rfl⟩
      · rw [decide_eq_false (by omega)] at e
        simp (disch := omega) only [nm, jn0, jn1, jn2, jn3, jn4, jn5, bnd1_s, bnd2_s, bnd3_s, bnd4_s, lit_n, neg1, chkI_n, chkZ_n, chkC_n, bI_B, chkB_0, chkB_1, bI_t, bI_f, clamp_n, nI_add, subn, remn2, nat_rem, divn, pk_mul, ifle_t, ifle_f, iflt_t, iflt_f, ifeq_t, ifeq_f, ifm_f, ifm_t, if_true, if_false, h1, h2, e]
        exact ⟨_, rfl, rfl⟩
theorem f_house {tT gN mM : GS} {T S : NN} (hB : BV tT gN mM T S) (i1 i2 : Int32) : ∃ r, MX4_house tT gN i1 i2 = some r ∧ MX5_house mM i1 i2 = some r := by
  obtain ⟨hT, hI, hR, hS, hNb, hM, hN⟩ := hB
  have i2' := hI.1.2.2.1
  unfold MX4_house MX5_house
  rcases isHouse_c hT hI hM i1 with ⟨h1, h2⟩ | ⟨h, hh, rfl, h1, h2⟩
  · simp (disch := omega) only [nm, jn0, jn1, jn2, jn3, jn4, jn5, bnd1_s, bnd2_s, bnd3_s, bnd4_s, lit_n, neg1, chkI_n, chkZ_n, chkC_n, bI_B, chkB_0, chkB_1, bI_t, bI_f, clamp_n, nI_add, subn, remn2, nat_rem, divn, pk_mul, ifle_t, ifle_f, iflt_t, iflt_f, ifeq_t, ifeq_f, ifm_f, ifm_t, if_true, if_false, h1, h2]
    exact ⟨_, rfl, rfl⟩
  · have k1 := hT.2.2.1 h (by omega)
    have k2 := hM.2.2.1 h (by omega)
    have p1 := hR.1 h hh
    have p2 := hN.1 h hh
    have r1 := hR.2.1 h hh
    have r2 := hN.2.1 h hh
    have n1 := hR.2.2.2.1
    have n2 := hN.2.2.1
    have sl := hS.2.2.2.2 h hh
    rcases arg i2 with k | ⟨w, hw, rfl⟩
    · simp (disch := omega) only [nm, jn0, jn1, jn2, jn3, jn4, jn5, bnd1_s, bnd2_s, bnd3_s, bnd4_s, lit_n, neg1, chkI_n, chkZ_n, chkC_n, bI_B, chkB_0, chkB_1, bI_t, bI_f, clamp_n, nI_add, subn, remn2, nat_rem, divn, pk_mul, ifle_t, ifle_f, iflt_t, iflt_f, ifeq_t, ifeq_f, ifm_f, ifm_t, if_true, if_false, h1, h2, ifnegE k]
      exact ⟨_, rfl, rfl⟩
    · by_cases c0 : w = 0
      · subst c0
        simp (disch := omega) only [nm, jn0, jn1, jn2, jn3, jn4, jn5, bnd1_s, bnd2_s, bnd3_s, bnd4_s, lit_n, neg1, chkI_n, chkZ_n, chkC_n, bI_B, chkB_0, chkB_1, bI_t, bI_f, clamp_n, nI_add, subn, remn2, nat_rem, divn, pk_mul, ifle_t, ifle_f, iflt_t, iflt_f, ifeq_t, ifeq_f, ifm_f, ifm_t, if_true, if_false, h1, h2, k1, k2]
        exact ⟨_, rfl, rfl⟩
      · by_cases c1 : w = 1
        · subst c1
          simp (disch := omega) only [nm, jn0, jn1, jn2, jn3, jn4, jn5, bnd1_s, bnd2_s, bnd3_s, bnd4_s, lit_n, neg1, chkI_n, chkZ_n, chkC_n, bI_B, chkB_0, chkB_1, bI_t, bI_f, clamp_n, nI_add, subn, remn2, nat_rem, divn, pk_mul, ifle_t, ifle_f, iflt_t, iflt_f, ifeq_t, ifeq_f, ifm_f, ifm_t, if_true, if_false, h1, h2, p1, p2]
          exact ⟨_, rfl, rfl⟩
        · by_cases c2 : w = 2
          · subst c2
            by_cases z : S 2 h = 0
            · have r3 : rI (S 2 h) = mI := by rw [z]; rfl
              rw [r3] at r2
              rw [z] at r1
              simp (disch := omega) only [nm, jn0, jn1, jn2, jn3, jn4, jn5, bnd1_s, bnd2_s, bnd3_s, bnd4_s, lit_n, neg1, chkI_n, chkZ_n, chkC_n, bI_B, chkB_0, chkB_1, bI_t, bI_f, clamp_n, nI_add, subn, remn2, nat_rem, divn, pk_mul, ifle_t, ifle_f, iflt_t, iflt_f, ifeq_t, ifeq_f, ifm_f, ifm_t, if_true, if_false, h1, h2, r1, r2]
              exact ⟨_, rfl, rfl⟩
            · have r3 : rI (S 2 h) = nI (S 2 h - 1) := rI_eq (by omega)
              rw [r3] at r2
              simp (disch := omega) only [nm, jn0, jn1, jn2, jn3, jn4, jn5, bnd1_s, bnd2_s, bnd3_s, bnd4_s, lit_n, neg1, chkI_n, chkZ_n, chkC_n, bI_B, chkB_0, chkB_1, bI_t, bI_f, clamp_n, nI_add, subn, remn2, nat_rem, divn, pk_mul, ifle_t, ifle_f, iflt_t, iflt_f, ifeq_t, ifeq_f, ifm_f, ifm_t, if_true, if_false, h1, h2, r1, r2, n1, n2]
              refine ⟨_, rfl, ?_⟩
              congr 2
              omega
          · simp (disch := omega) only [nm, jn0, jn1, jn2, jn3, jn4, jn5, bnd1_s, bnd2_s, bnd3_s, bnd4_s, lit_n, neg1, chkI_n, chkZ_n, chkC_n, bI_B, chkB_0, chkB_1, bI_t, bI_f, clamp_n, nI_add, subn, remn2, nat_rem, divn, pk_mul, ifle_t, ifle_f, iflt_t, iflt_f, ifeq_t, ifeq_f, ifm_f, ifm_t, if_true, if_false, h1, h2]
            exact ⟨_, rfl, rfl⟩
theorem p_ways0 {gS tT : GS} {T S : NN} {h : Nat} (hT : RT tT T) (hI : IT T) (hR : RS gS T S 0) (hS : IS T S) (hh : h < T 0 1) (fR : Nat → Int32) : ∃ f', MX1_findWays gS fR tT (nI h) = some (nI (ways T (S 1) h).length, f') ∧ rowOf f' (ways T (S 1) h) := by
  have := p_ways hT hI hR hS (by decide) hh fR
  rwa [mk_0] at this
theorem f_as {tT gN mM : GS} {T S : NN} (hB : BV tT gN mM T S) (fW : Nat → Int32) (i1 i2 : Int32) : ∃ r fW' m', MX4_as tT gN fW i1 i2 = some (r, fW') ∧ MX5_as mM i1 i2 = some (r, m') ∧ fFs mM m' := by
  obtain ⟨hT, hI, hR, hS, hNb, hM, hN⟩ := hB
  have i2' := hI.1.2.2.1
  unfold MX4_as MX5_as MX4_isSuch
  rcases isHouse_c hT hI hM i1 with ⟨h1, h2⟩ | ⟨h, hh, rfl, h1, h2⟩
  · simp (disch := omega) only [nm, jn0, jn1, jn2, jn3, jn4, jn5, bnd1_s, bnd2_s, bnd3_s, bnd4_s, lit_n, neg1, chkI_n, chkZ_n, chkC_n, bI_B, chkB_0, chkB_1, bI_t, bI_f, clamp_n, nI_add, subn, remn2, nat_rem, divn, pk_mul, ifle_t, ifle_f, iflt_t, iflt_f, ifeq_t, ifeq_f, ifm_f, ifm_t, if_true, if_false, h1, h2]
    exact ⟨_, _, _, rfl, rfl, fFs.refl⟩
  · have k1 := hT.2.2.1 h (by omega)
    have k2 := hM.2.2.1 h (by omega)
    have kk := hI.2.2.1 h (by omega)
    rcases arg i2 with k | ⟨w, hw, rfl⟩
    · have e := r_inN (i := i2) (hi := nI 4) (lo := 0) k (by decide)
      simp (disch := omega) only [nm, jn0, jn1, jn2, jn3, jn4, jn5, bnd1_s, bnd2_s, bnd3_s, bnd4_s, lit_n, neg1, chkI_n, chkZ_n, chkC_n, bI_B, chkB_0, chkB_1, bI_t, bI_f, clamp_n, nI_add, subn, remn2, nat_rem, divn, pk_mul, ifle_t, ifle_f, iflt_t, iflt_f, ifeq_t, ifeq_f, ifm_f, ifm_t, if_true, if_false, h1, h2, e, ifneg k]
      exact ⟨_, _, _, rfl, rfl, fFs.refl⟩
    · have e := r_in (k := w) (lo := 0) (hi := 4) hw (by decide) (by decide)
      by_cases c : w ≤ 4
      · rw [decide_eq_true (by omega)] at e
        obtain ⟨f', a1, a2⟩ := p_ways0 hT hI hR hS hh fW
        obtain ⟨m', b1, b2, b3⟩ := r_layWays hM hI hN.1 hS.1 hh
        have b4 := b3.1
        have hkk : T 2 h = 0 ∨ T 2 h = 1 ∨ T 2 h = 2 ∨ T 2 h = 3 := by omega
        have hww : w = 0 ∨ w = 1 ∨ w = 2 ∨ w = 3 ∨ w = 4 := by omega
        rcases hkk with z | z | z | z <;> rcases hww with y | y | y | y | y <;> subst y <;> rw [z] at k1 k2 <;> simp (disch := omega) only [nm, jn0, jn1, jn2, jn3, jn4, jn5, bnd1_s, bnd2_s, bnd3_s, bnd4_s, lit_n, neg1, chkI_n, chkZ_n, chkC_n, bI_B, chkB_0, chkB_1, bI_t, bI_f, clamp_n, nI_add, subn, remn2, nat_rem, divn, pk_mul, ifle_t, ifle_f, iflt_t, iflt_f, ifeq_t, ifeq_f, ifm_f, ifm_t, if_true, if_false, h1, h2, e, k1, k2, a1, b1, b4, Nat.zero_add, Nat.reduceAdd] <;> exact ⟨_, _, m', rfl, rfl, b2.f⟩
      · rw [decide_eq_false (by omega)] at e
        simp (disch := omega) only [nm, jn0, jn1, jn2, jn3, jn4, jn5, bnd1_s, bnd2_s, bnd3_s, bnd4_s, lit_n, neg1, chkI_n, chkZ_n, chkC_n, bI_B, chkB_0, chkB_1, bI_t, bI_f, clamp_n, nI_add, subn, remn2, nat_rem, divn, pk_mul, ifle_t, ifle_f, iflt_t, iflt_f, ifeq_t, ifeq_f, ifm_f, ifm_t, if_true, if_false, h1, h2, e]
        exact ⟨_, _, _, rfl, rfl, fFs.refl⟩
theorem f_can {tT gN mM : GS} {T S : NN} (hB : BV tT gN mM T S) (fW : Nat → Int32) (i1 i2 : Int32) : ∃ r fW' m', MX4_can tT gN fW i1 i2 = some (r, fW') ∧ MX5_can mM i1 i2 = some (r, m') ∧ fFs mM m' := by
  obtain ⟨hT, hI, hR, hS, hNb, hM, hN⟩ := hB
  have i2' := hI.1.2.2.1
  unfold MX4_can MX5_can
  rcases isHouse_c hT hI hM i1 with ⟨h1, h2⟩ | ⟨h, hh, rfl, h1, h2⟩
  · simp (disch := omega) only [nm, jn0, jn1, jn2, jn3, jn4, jn5, bnd1_s, bnd2_s, bnd3_s, bnd4_s, lit_n, neg1, chkI_n, chkZ_n, chkC_n, bI_B, chkB_0, chkB_1, bI_t, bI_f, clamp_n, nI_add, subn, remn2, nat_rem, divn, pk_mul, ifle_t, ifle_f, iflt_t, iflt_f, ifeq_t, ifeq_f, ifm_f, ifm_t, if_true, if_false, h1, h2]
    exact ⟨_, _, _, rfl, rfl, fFs.refl⟩
  · rcases arg i2 with k | ⟨w, hw, rfl⟩
    · simp (disch := omega) only [nm, jn0, jn1, jn2, jn3, jn4, jn5, bnd1_s, bnd2_s, bnd3_s, bnd4_s, lit_n, neg1, chkI_n, chkZ_n, chkC_n, bI_B, chkB_0, chkB_1, bI_t, bI_f, clamp_n, nI_add, subn, remn2, nat_rem, divn, pk_mul, ifle_t, ifle_f, iflt_t, iflt_f, ifeq_t, ifeq_f, ifm_f, ifm_t, if_true, if_false, h1, h2, ifneg0 k]
      exact ⟨_, _, _, rfl, rfl, fFs.refl⟩
    · obtain ⟨f', a1, a2⟩ := p_ways0 hT hI hR hS hh fW
      obtain ⟨m', b1, b2, b3⟩ := r_layWays hM hI hN.1 hS.1 hh
      have b4 := b3.1
      have hl := ways_len (P := S 1) (h := h) hI
      by_cases c : w < (ways T (S 1) h).length
      · have e1 := a2 w c
        have e2 := b3.2 w c
        simp (disch := omega) only [nm, jn0, jn1, jn2, jn3, jn4, jn5, bnd1_s, bnd2_s, bnd3_s, bnd4_s, lit_n, neg1, chkI_n, chkZ_n, chkC_n, bI_B, chkB_0, chkB_1, bI_t, bI_f, clamp_n, nI_add, subn, remn2, nat_rem, divn, pk_mul, ifle_t, ifle_f, iflt_t, iflt_f, ifeq_t, ifeq_f, ifm_f, ifm_t, if_true, if_false, h1, h2, a1, b1, b4, e1, e2]
        exact ⟨_, _, m', rfl, rfl, b2.f⟩
      · simp (disch := omega) only [nm, jn0, jn1, jn2, jn3, jn4, jn5, bnd1_s, bnd2_s, bnd3_s, bnd4_s, lit_n, neg1, chkI_n, chkZ_n, chkC_n, bI_B, chkB_0, chkB_1, bI_t, bI_f, clamp_n, nI_add, subn, remn2, nat_rem, divn, pk_mul, ifle_t, ifle_f, iflt_t, iflt_f, ifeq_t, ifeq_f, ifm_f, ifm_t, if_true, if_false, h1, h2, a1, b1, b4]
        exact ⟨_, _, m', rfl, rfl, b2.f⟩
theorem f_go {tT gN mM : GS} {T S : NN} (hB : BV tT gN mM T S) (fN : Nat → Int32) (i1 : Int32) : ∃ r gN' fN' m' S', MX4_go tT gN fN i1 = some (r, gN', fN') ∧ MX5_go mM i1 = some (r, m') ∧ BV tT gN' m' T S' ∧ fCs mM m' := by
  have hB' := hB
  obtain ⟨hT, hI, hR, hS, hNb, hM, hN⟩ := hB'
  have i3 := hI.1.2.2.2.2.2.1
  have n1 := hR.2.2.2.1
  have n2 := hN.2.2.1
  have t4 := hT.1.2.2.2.2.1
  have m9 := hM.1.2.2.2.2.1
  rcases arg i1 with k | ⟨t, ht, rfl⟩
  · have e := r_inN (i := i1) (hi := nI 99) (lo := 1) k (by decide)
    unfold MX4_go MX5_go
    simp (disch := omega) only [nm, jn0, jn1, jn2, jn3, jn4, jn5, bnd1_s, bnd2_s, bnd3_s, bnd4_s, lit_n, neg1, chkI_n, chkZ_n, chkC_n, bI_B, chkB_0, chkB_1, bI_t, bI_f, clamp_n, nI_add, subn, remn2, nat_rem, divn, pk_mul, ifle_t, ifle_f, iflt_t, iflt_f, ifeq_t, ifeq_f, ifm_f, ifm_t, if_true, if_false, e, ifneg k]
    exact ⟨_, _, _, _, S, rfl, rfl, hB, fCs.refl⟩
  · have e := r_in (k := t) (lo := 1) (hi := 99) ht (by decide) (by decide)
    by_cases c : 1 ≤ t ∧ t ≤ 99
    · rw [decide_eq_true c] at e
      by_cases d : S 0 5 + t ≤ 9999
      · have cls : ∃ gN' fN', MX4_go tT gN fN (nI t) = some (nI (S 0 5 + t), gN', fN') ∧ RS gN' T (nights T (T 0 4) S t) 0 := by
          unfold MX4_go
          simp (disch := omega) only [nm, jn0, jn1, jn2, jn3, jn4, jn5, bnd1_s, bnd2_s, bnd3_s, bnd4_s, lit_n, neg1, chkI_n, chkZ_n, chkC_n, bI_B, chkB_0, chkB_1, bI_t, bI_f, clamp_n, nI_add, subn, remn2, nat_rem, divn, pk_mul, ifle_t, ifle_f, iflt_t, iflt_f, ifeq_t, ifeq_f, ifm_f, ifm_t, if_true, if_false, n1]
          refine lq3_rel (fun i x (g : GS) (f : Nat → Int32) => x = nI i ∧ RS g T (nights T (T 0 4) S i) 0) t (fun r => ∃ gN' fN', r = some (nI (S 0 5 + t), gN', fN') ∧ RS gN' T (nights T (T 0 4) S t) 0) ?_ _ _ _ ⟨rfl, hR⟩ (FU_lt (by omega))
          rintro i x g f hi ⟨rfl, hg⟩
          by_cases c2 : i < t
          · obtain ⟨g', f', e1, e2⟩ := p_n0 hT hI hg (nights_IS hI hS) (by rw [nights_N]; omega) i3 f
            refine Or.inl ⟨c2, nI (i + 1), g', f', ⟨rfl, e2⟩, fun rec => ?_⟩
            unfold BX4_go_34
            simp (disch := omega) only [nm, jn0, jn1, jn2, jn3, jn4, jn5, bnd1_s, bnd2_s, bnd3_s, bnd4_s, lit_n, neg1, chkI_n, chkZ_n, chkC_n, bI_B, chkB_0, chkB_1, bI_t, bI_f, clamp_n, nI_add, subn, remn2, nat_rem, divn, pk_mul, ifle_t, ifle_f, iflt_t, iflt_f, ifeq_t, ifeq_f, ifm_f, ifm_t, if_true, if_false, t4, e1]
          · have : i = t := by omega
            subst this
            have e5 := hg.2.2.2.1
            rw [nights_N] at e5
            refine Or.inr ⟨_, ⟨g, f, rfl, hg⟩, fun rec => ?_⟩
            unfold BX4_go_34
            simp (disch := omega) only [nm, jn0, jn1, jn2, jn3, jn4, jn5, bnd1_s, bnd2_s, bnd3_s, bnd4_s, lit_n, neg1, chkI_n, chkZ_n, chkC_n, bI_B, chkB_0, chkB_1, bI_t, bI_f, clamp_n, nI_add, subn, remn2, nat_rem, divn, pk_mul, ifle_t, ifle_f, iflt_t, iflt_f, ifeq_t, ifeq_f, ifm_f, ifm_t, if_true, if_false, e5]
        have ref : ∃ m', MX5_go mM (nI t) = some (nI (S 0 5 + t), m') ∧ fCs mM m' ∧ RN m' T (nights T (T 0 4) S t) := by
          obtain ⟨m0, hm0⟩ : ∃ m0, m0 = up2 mM 0 34 (nI (T 0 4)) := ⟨_, rfl⟩
          have f0 : fCs mM m0 := fun a b k => by
            unfold core at k
            subst hm0
            by_cases z : a = 0
            · subst z; exact up2_n (by omega)
            · rw [up2_r z]
          have N0 : RN m0 T S := hN.row hI fun j _ => by subst hm0; rw [up2_r (by decide)]
          have l0 : m0 0 34 = nI (T 0 4) := by subst hm0; exact up2_s
          unfold MX5_go
          simp (disch := omega) only [nm, jn0, jn1, jn2, jn3, jn4, jn5, bnd1_s, bnd2_s, bnd3_s, bnd4_s, lit_n, neg1, chkI_n, chkZ_n, chkC_n, bI_B, chkB_0, chkB_1, bI_t, bI_f, clamp_n, nI_add, subn, remn2, nat_rem, divn, pk_mul, ifle_t, ifle_f, iflt_t, iflt_f, ifeq_t, ifeq_f, ifm_f, ifm_t, if_true, if_false, e, n2, m9, ← hm0]
          refine lq2_rel (fun i x (g : GS) => x = nI i ∧ fCs mM g ∧ RM g T ∧ RN g T (nights T (T 0 4) S i) ∧ g 0 34 = nI (T 0 4)) t (fun r => ∃ m', r = some (nI (S 0 5 + t), m') ∧ fCs mM m' ∧ RN m' T (nights T (T 0 4) S t)) ?_ _ _ ⟨rfl, f0, hM.fC f0, N0, l0⟩ (FU_lt (by omega))
          rintro i x g hi ⟨rfl, g1, g2, g3, g4⟩
          by_cases c2 : i < t
          · obtain ⟨g', q1, q2, q3⟩ := r_goNight g2 hI g3 (nights_IS hI hS) g4 i3 (by rw [nights_N]; omega)
            refine Or.inl ⟨c2, nI (i + 1), g', ⟨rfl, g1.trans q2.c, g2.fN q2, q3, by rw [q2 0 34 (by decide) (by decide) (by decide)]; exact g4⟩, fun rec => ?_⟩
            unfold BX5_go_41
            simp (disch := omega) only [nm, jn0, jn1, jn2, jn3, jn4, jn5, bnd1_s, bnd2_s, bnd3_s, bnd4_s, lit_n, neg1, chkI_n, chkZ_n, chkC_n, bI_B, chkB_0, chkB_1, bI_t, bI_f, clamp_n, nI_add, subn, remn2, nat_rem, divn, pk_mul, ifle_t, ifle_f, iflt_t, iflt_f, ifeq_t, ifeq_f, ifm_f, ifm_t, if_true, if_false, q1]
          · have : i = t := by omega
            subst this
            have e5 := g3.2.2.1
            rw [nights_N] at e5
            refine Or.inr ⟨_, ⟨g, rfl, g1, g3⟩, fun rec => ?_⟩
            unfold BX5_go_41
            simp (disch := omega) only [nm, jn0, jn1, jn2, jn3, jn4, jn5, bnd1_s, bnd2_s, bnd3_s, bnd4_s, lit_n, neg1, chkI_n, chkZ_n, chkC_n, bI_B, chkB_0, chkB_1, bI_t, bI_f, clamp_n, nI_add, subn, remn2, nat_rem, divn, pk_mul, ifle_t, ifle_f, iflt_t, iflt_f, ifeq_t, ifeq_f, ifm_f, ifm_t, if_true, if_false, e5]
        obtain ⟨gN', fN', c1, c2⟩ := cls
        obtain ⟨m', r1, r2, r3⟩ := ref
        exact ⟨_, gN', fN', m', nights T (T 0 4) S t, c1, r1, ⟨hT, hI, c2, nights_IS hI hS, by rw [nights_N]; exact d, hM.fC r2, r3⟩, r2⟩
      · unfold MX4_go MX5_go
        simp (disch := omega) only [nm, jn0, jn1, jn2, jn3, jn4, jn5, bnd1_s, bnd2_s, bnd3_s, bnd4_s, lit_n, neg1, chkI_n, chkZ_n, chkC_n, bI_B, chkB_0, chkB_1, bI_t, bI_f, clamp_n, nI_add, subn, remn2, nat_rem, divn, pk_mul, ifle_t, ifle_f, iflt_t, iflt_f, ifeq_t, ifeq_f, ifm_f, ifm_t, if_true, if_false, e, n1, n2]
        exact ⟨_, _, _, _, S, rfl, rfl, hB, fCs.refl⟩
    · rw [decide_eq_false c] at e
      unfold MX4_go MX5_go
      by_cases d : t < 1
      · simp (disch := omega) only [nm, jn0, jn1, jn2, jn3, jn4, jn5, bnd1_s, bnd2_s, bnd3_s, bnd4_s, lit_n, neg1, chkI_n, chkZ_n, chkC_n, bI_B, chkB_0, chkB_1, bI_t, bI_f, clamp_n, nI_add, subn, remn2, nat_rem, divn, pk_mul, ifle_t, ifle_f, iflt_t, iflt_f, ifeq_t, ifeq_f, ifm_f, ifm_t, if_true, if_false, e]
        exact ⟨_, _, _, _, S, rfl, rfl, hB, fCs.refl⟩
      · simp (disch := omega) only [nm, jn0, jn1, jn2, jn3, jn4, jn5, bnd1_s, bnd2_s, bnd3_s, bnd4_s, lit_n, neg1, chkI_n, chkZ_n, chkC_n, bI_B, chkB_0, chkB_1, bI_t, bI_f, clamp_n, nI_add, subn, remn2, nat_rem, divn, pk_mul, ifle_t, ifle_f, iflt_t, iflt_f, ifeq_t, ifeq_f, ifm_f, ifm_t, if_true, if_false, e]
        exact ⟨_, _, _, _, S, rfl, rfl, hB, fCs.refl⟩
theorem f_roll {tT gN mM : GS} {T S : NN} (hB : BV tT gN mM T S) (fN : Nat → Int32) (i1 i2 : Int32) : ∃ r gN' fN' m' S', MX4_roll tT gN fN i1 i2 = some (r, gN', fN') ∧ MX5_roll mM i1 i2 = some (r, m') ∧ BV tT gN' m' T S' ∧ fCs mM m' := by
  have hB' := hB
  obtain ⟨hT, hI, hR, hS, hNb, hM, hN⟩ := hB'
  have i3 := hI.1.2.2.2.2.2.1
  have i2' := hI.1.2.2.1
  have i1' := hI.1.2.1
  have n1 := hR.2.2.2.1
  have t4 := hT.1.2.2.2.2.1
  unfold MX4_roll MX5_roll
  rcases isHouse_c hT hI hM i1 with ⟨h1, h2⟩ | ⟨h, hh, rfl, h1, h2⟩
  · simp (disch := omega) only [nm, jn0, jn1, jn2, jn3, jn4, jn5, bnd1_s, bnd2_s, bnd3_s, bnd4_s, lit_n, neg1, chkI_n, chkZ_n, chkC_n, bI_B, chkB_0, chkB_1, bI_t, bI_f, clamp_n, nI_add, subn, remn2, nat_rem, divn, pk_mul, ifle_t, ifle_f, iflt_t, iflt_f, ifeq_t, ifeq_f, ifm_f, ifm_t, if_true, if_false, h1, h2]
    exact ⟨_, _, _, _, S, rfl, rfl, hB, fCs.refl⟩
  · rcases isPlot_c hT hI hM i2 with ⟨g1, g2⟩ | ⟨q, hq, rfl, g1, g2⟩
    · simp (disch := omega) only [nm, jn0, jn1, jn2, jn3, jn4, jn5, bnd1_s, bnd2_s, bnd3_s, bnd4_s, lit_n, neg1, chkI_n, chkZ_n, chkC_n, bI_B, chkB_0, chkB_1, bI_t, bI_f, clamp_n, nI_add, subn, remn2, nat_rem, divn, pk_mul, ifle_t, ifle_f, iflt_t, iflt_f, ifeq_t, ifeq_f, ifm_f, ifm_t, if_true, if_false, h1, h2, g1, g2]
      exact ⟨_, _, _, _, S, rfl, rfl, hB, fCs.refl⟩
    · obtain ⟨f', a1⟩ := p_hasWayTo hT hI hR hS (by decide) hh hq fN
      rw [mk_0] at a1
      obtain ⟨m1, b1, b2, b3⟩ := r_layWays hM hI hN.1 hS.1 hh
      have b4 := b3.1
      have M1 := hM.fN b2.n
      have N1 := hN.fW b2
      have e16 := N1.2.2.1
      have hl := ways_len (P := S 1) (h := h) hI
      have hmem : ∀ e, e ∈ ways T (S 1) h → e < T 0 0 := fun e he => (mem_wayF hI (hS.1 h hh) he).2.1
      have loop : ∀ (k11 : Int32 → Option (Int32 × GS)), lq2 (BX5_roll_29 m1 k11 (nI q)) FU (nI 0) (nI 0) = k11 (bI (decide (q ∈ ways T (S 1) h))) := by
        intro k11
        generalize hW : ways T (S 1) h = W at *
        have hfin : decide (q ∈ W) = (fst1 (fun i => decide (W.getD i 99 = q)) W.length).isSome := by
          cases z : fst1 (fun i => decide (W.getD i 99 = q)) W.length with
          | some a =>
            obtain ⟨z1, z2, -⟩ := fst1_some.mp z
            refine decide_eq_true ?_
            have : W[a] = q := by
              simp only [decide_eq_true_eq] at z2
              rw [List.getD_eq_getElem?_getD, List.getElem?_eq_getElem z1] at z2
              exact z2
            rw [← this]; exact List.getElem_mem z1
          | none =>
            have := fst1_none.mp z
            refine decide_eq_false fun y => ?_
            obtain ⟨j, hj, e⟩ := List.getElem_of_mem y
            have := this j hj
            rw [List.getD_eq_getElem?_getD, List.getElem?_eq_getElem hj] at this
            simp [e] at this
        rw [hfin]
        refine lq2_run (fun i => bI (fst1 (fun i => decide (W.getD i 99 = q)) i).isSome) nI W.length _ ?_ ?_ FU (FU_lt (by omega))
        · intro i hi rec
          have e := b3.2 i hi
          have e' : W[i] = W.getD i 99 := by rw [List.getD_eq_getElem?_getD, List.getElem?_eq_getElem hi]; rfl
          have lv := hmem W[i] (List.getElem_mem hi)
          rw [e'] at e lv
          unfold BX5_roll_29
          cases z : fst1 (fun i => decide (W.getD i 99 = q)) i with
          | some a =>
            rw [fst1_mono (m := i + 1) z (by omega)]
            simp (disch := omega) only [nm, jn0, jn1, jn2, jn3, jn4, jn5, bnd1_s, bnd2_s, bnd3_s, bnd4_s, lit_n, neg1, chkI_n, chkZ_n, chkC_n, bI_B, chkB_0, chkB_1, bI_t, bI_f, clamp_n, nI_add, subn, remn2, nat_rem, divn, pk_mul, ifle_t, ifle_f, iflt_t, iflt_f, ifeq_t, ifeq_f, ifm_f, ifm_t, if_true, if_false, b4, Option.isSome_some]
          | none =>
            rw [fst1_s0 z]
            by_cases y : W.getD i 99 = q
            · rw [decide_eq_true y]
              simp (disch := omega) only [nm, jn0, jn1, jn2, jn3, jn4, jn5, bnd1_s, bnd2_s, bnd3_s, bnd4_s, lit_n, neg1, chkI_n, chkZ_n, chkC_n, bI_B, chkB_0, chkB_1, bI_t, bI_f, clamp_n, nI_add, subn, remn2, nat_rem, divn, pk_mul, ifle_t, ifle_f, iflt_t, iflt_f, ifeq_t, ifeq_f, ifm_f, ifm_t, if_true, if_false, b4, e, Option.isSome_some, Option.isSome_none]
            · rw [decide_eq_false y]
              simp (disch := omega) only [nm, jn0, jn1, jn2, jn3, jn4, jn5, bnd1_s, bnd2_s, bnd3_s, bnd4_s, lit_n, neg1, chkI_n, chkZ_n, chkC_n, bI_B, chkB_0, chkB_1, bI_t, bI_f, clamp_n, nI_add, subn, remn2, nat_rem, divn, pk_mul, ifle_t, ifle_f, iflt_t, iflt_f, ifeq_t, ifeq_f, ifm_f, ifm_t, if_true, if_false, b4, e, Option.isSome_none, Bool.false_eq_true]
        · intro rec
          unfold BX5_roll_29
          simp (disch := omega) only [nm, jn0, jn1, jn2, jn3, jn4, jn5, bnd1_s, bnd2_s, bnd3_s, bnd4_s, lit_n, neg1, chkI_n, chkZ_n, chkC_n, bI_B, chkB_0, chkB_1, bI_t, bI_f, clamp_n, nI_add, subn, remn2, nat_rem, divn, pk_mul, ifle_t, ifle_f, iflt_t, iflt_f, ifeq_t, ifeq_f, ifm_f, ifm_t, if_true, if_false, b4]
      by_cases w : q ∈ ways T (S 1) h
      · rw [decide_eq_true w] at a1 loop
        by_cases d : S 0 5 < 9999
        · obtain ⟨g', c1, c2⟩ := p_passNightOf hT hI hR hS (by omega) i3 hh hq
          obtain ⟨m2, d1, d2, d3⟩ := r_rollTo hI N1 (h := h) (q := q) hh
          have M2 := M1.fN d2
          have F2 := b2.n.trans d2
          have u9 := M2.1.2.2.2.2.1
          have u2 := M2.1.2.1
          have u17 : m2 8 17 = nI (S 0 6) := by rw [d3.2.2.2.1]; simp [tU]
          have u16 : m2 8 16 = nI (S 0 5) := by rw [d3.2.2.1]; simp [tU]
          have c5 : g' 0 5 = nI (S 0 5 + 1) := by
            rw [c2.2.2.2.1]
            unfold rolT
            split <;> simp [rol, tU]
          have hS' := IS_rolT (law := T 0 4) hI hS hh w
          have hN5 : rolT T S h q (T 0 4) 0 5 = S 0 5 + 1 := by
            unfold rolT
            split <;> simp [rol, tU]
          by_cases z : T 0 4 = 1
          · have N4 := RN_17 (v := nx (T 0 1) h) hI d3
            have v16 : (p8 m2 17 (nx (T 0 1) h)) 8 16 = nI (S 0 5) := by rw [N4.2.2.1]; simp [tU]
            have N5 := RN_16 (v := S 0 5 + 1) hI N4
            have v16' : (p8 (p8 m2 17 (nx (T 0 1) h)) 16 (S 0 5 + 1)) 8 16 = nI (S 0 5 + 1) := p8_s
            have hp : upA m2 8 (upd (m2 8) 17 (nI ((h + 1) % T 0 1))) = p8 m2 17 (nx (T 0 1) h) := by rw [nx_mod hh]; rfl
            have hp2 : upA (p8 m2 17 (nx (T 0 1) h)) 8 (upd ((p8 m2 17 (nx (T 0 1) h)) 8) 16 (nI (S 0 5 + 1))) = p8 (p8 m2 17 (nx (T 0 1) h)) 16 (S 0 5 + 1) := rfl
            refine ⟨nI (S 0 5 + 1), g', f', p8 (p8 m2 17 (nx (T 0 1) h)) 16 (S 0 5 + 1), rolT T S h q (T 0 4), ?_, ?_, ⟨hT, hI, c2, hS', by rw [hN5]; omega, (M2.fN fNs_p8).fN fNs_p8, ?_⟩, (F2.trans (fNs_p8.trans fNs_p8)).c⟩
            · simp (disch := omega) only [nm, jn0, jn1, jn2, jn3, jn4, jn5, bnd1_s, bnd2_s, bnd3_s, bnd4_s, lit_n, neg1, chkI_n, chkZ_n, chkC_n, bI_B, chkB_0, chkB_1, bI_t, bI_f, clamp_n, nI_add, subn, remn2, nat_rem, divn, pk_mul, ifle_t, ifle_f, iflt_t, iflt_f, ifeq_t, ifeq_f, ifm_f, ifm_t, if_true, if_false, h1, g1, a1, n1, t4, c1, c5]
            · simp (disch := omega) only [nm, jn0, jn1, jn2, jn3, jn4, jn5, bnd1_s, bnd2_s, bnd3_s, bnd4_s, lit_n, neg1, chkI_n, chkZ_n, chkC_n, bI_B, chkB_0, chkB_1, bI_t, bI_f, clamp_n, nI_add, subn, remn2, nat_rem, divn, pk_mul, ifle_t, ifle_f, iflt_t, iflt_f, ifeq_t, ifeq_f, ifm_f, ifm_t, if_true, if_false, h2, g2, b1, loop, e16, d1, u9, u2, hp, v16, hp2, v16']
            · refine N5.congr ?_ ?_ ?_ ?_ ?_
              all_goals simp [rolT, rol, tU, z]
          · have N4 := RN_17 (v := S 0 6) hI d3
            have v16 : (p8 m2 17 (S 0 6)) 8 16 = nI (S 0 5) := by rw [N4.2.2.1]; simp [tU]
            have N5 := RN_16 (v := S 0 5 + 1) hI N4
            have v16' : (p8 (p8 m2 17 (S 0 6)) 16 (S 0 5 + 1)) 8 16 = nI (S 0 5 + 1) := p8_s
            have hp : upA m2 8 (upd (m2 8) 17 (nI (S 0 6))) = p8 m2 17 (S 0 6) := rfl
            have hp2 : upA (p8 m2 17 (S 0 6)) 8 (upd ((p8 m2 17 (S 0 6)) 8) 16 (nI (S 0 5 + 1))) = p8 (p8 m2 17 (S 0 6)) 16 (S 0 5 + 1) := rfl
            refine ⟨nI (S 0 5 + 1), g', f', p8 (p8 m2 17 (S 0 6)) 16 (S 0 5 + 1), rolT T S h q (T 0 4), ?_, ?_, ⟨hT, hI, c2, hS', by rw [hN5]; omega, (M2.fN fNs_p8).fN fNs_p8, ?_⟩, (F2.trans (fNs_p8.trans fNs_p8)).c⟩
            · simp (disch := omega) only [nm, jn0, jn1, jn2, jn3, jn4, jn5, bnd1_s, bnd2_s, bnd3_s, bnd4_s, lit_n, neg1, chkI_n, chkZ_n, chkC_n, bI_B, chkB_0, chkB_1, bI_t, bI_f, clamp_n, nI_add, subn, remn2, nat_rem, divn, pk_mul, ifle_t, ifle_f, iflt_t, iflt_f, ifeq_t, ifeq_f, ifm_f, ifm_t, if_true, if_false, h1, g1, a1, n1, t4, c1, c5]
            · simp (disch := omega) only [nm, jn0, jn1, jn2, jn3, jn4, jn5, bnd1_s, bnd2_s, bnd3_s, bnd4_s, lit_n, neg1, chkI_n, chkZ_n, chkC_n, bI_B, chkB_0, chkB_1, bI_t, bI_f, clamp_n, nI_add, subn, remn2, nat_rem, divn, pk_mul, ifle_t, ifle_f, iflt_t, iflt_f, ifeq_t, ifeq_f, ifm_f, ifm_t, if_true, if_false, h2, g2, b1, loop, e16, d1, u9, u17, hp, v16, hp2, v16']
            · refine N5.congr ?_ ?_ ?_ ?_ ?_
              all_goals simp [rolT, rol, tU, z]
        · have : S 0 5 = 9999 := by omega
          simp (disch := omega) only [nm, jn0, jn1, jn2, jn3, jn4, jn5, bnd1_s, bnd2_s, bnd3_s, bnd4_s, lit_n, neg1, chkI_n, chkZ_n, chkC_n, bI_B, chkB_0, chkB_1, bI_t, bI_f, clamp_n, nI_add, subn, remn2, nat_rem, divn, pk_mul, ifle_t, ifle_f, iflt_t, iflt_f, ifeq_t, ifeq_f, ifm_f, ifm_t, if_true, if_false, h1, h2, g1, g2, a1, b1, loop, n1, e16]
          exact ⟨_, _, _, m1, S, rfl, rfl, ⟨hT, hI, hR, hS, hNb, M1, N1⟩, b2.n.c⟩
      · rw [decide_eq_false w] at a1 loop
        simp (disch := omega) only [nm, jn0, jn1, jn2, jn3, jn4, jn5, bnd1_s, bnd2_s, bnd3_s, bnd4_s, lit_n, neg1, chkI_n, chkZ_n, chkC_n, bI_B, chkB_0, chkB_1, bI_t, bI_f, clamp_n, nI_add, subn, remn2, nat_rem, divn, pk_mul, ifle_t, ifle_f, iflt_t, iflt_f, ifeq_t, ifeq_f, ifm_f, ifm_t, if_true, if_false, h1, h2, g1, g2, a1, b1, loop]
        exact ⟨_, _, _, m1, S, rfl, rfl, ⟨hT, hI, hR, hS, hNb, M1, N1⟩, b2.n.c⟩
