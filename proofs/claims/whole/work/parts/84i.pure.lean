/-! round, the reference -/
def fv (K : Nat → Nat) (j : Nat) : Option Nat := (fi K j).map (fun i => 501 * i + j - i)
def rF (K : Nat → Nat) (n : Nat) : Option Nat := match fst1 (fun j => (fi K j).isSome) n with
  | none => none
  | some j => fv K j
theorem rF_s {K : Nat → Nat} {n : Nat} (h : fst1 (fun j => (fi K j).isSome) n = none) : rF K (n + 1) = fv K n := by
  unfold rF
  rw [fst1_s0 h]
  cases e : fi K n with
  | none => simp [fv, e]
  | some v => simp
theorem gone.f14 {mM g g' : GS} {T S : NN} {law t j : Nat} (hI : IT T) (h : gone mM g T S law t) (f : f14 g g' j) : gone mM g' T S law t := by
  obtain ⟨h1, h2, h3, h4⟩ := h
  have fc : fCs g g' := fun a b k => by unfold core at k; exact f.1 a b (by omega)
  exact ⟨⟨h1.1.trans fc, fun k hk => by rw [f.1 9 k (by decide)]; exact h1.2 k hk⟩, h2.fC fc, h3.row hI (fun k _ => f.1 8 k (by decide)), by rw [f.1 0 34 (by decide)]; exact h4⟩
theorem r_roundOf {tT gN mM : GS} {T S : NN} (hB : BV tT gN mM T S) : ∃ m', MX5_roundOf mM = some (oI (rF (fun j => stK T (T 0 4) (nights T (T 0 4) S j)) 501), m') ∧ fFs mM m' := by
  obtain ⟨hT, hI, hR, hS, hNb, hM, hN⟩ := hB
  have i3 := hI.1.2.2.2.2.2.1
  obtain ⟨m1, a1, a2, a3, a4⟩ := r_putAside mM
  obtain ⟨K, hK⟩ : ∃ K : Nat → Nat, K = fun j => stK T (T 0 4) (nights T (T 0 4) S j) := ⟨_, rfl⟩
  rw [← hK]
  unfold MX5_roundOf
  simp (disch := omega) only [nm, jn0, jn1, jn2, jn3, jn4, jn5, bnd1_s, bnd2_s, bnd3_s, bnd4_s, lit_n, neg1, chkI_n, chkZ_n, chkC_n, bI_B, chkB_0, chkB_1, bI_t, bI_f, clamp_n, nI_add, subn, remn2, nat_rem, divn, pk_mul, ifle_t, ifle_f, iflt_t, iflt_f, ifeq_t, ifeq_f, ifm_f, ifm_t, if_true, if_false, a1]
  refine lq3_rel (fun j x y (g : GS) => x = oI (rF K j) ∧ y = nI j ∧ gone mM g T S (T 0 4) j ∧ ∀ i, i < j → ∀ c, c < 18 → g 14 (18 * i + c) = nI (sv T (T 0 4) (nights T (T 0 4) S i) c)) 501 (fun r => ∃ m', r = some (oI (rF K 501), m') ∧ fFs mM m') ?_ _ _ _ ⟨rfl, rfl, gone_0 hI hM hN a2 a3 a4, fun i h => absurd h (Nat.not_lt_zero _)⟩ (FU_lt (by omega))
  rintro j x y g hj ⟨rfl, rfl, hg, hst⟩
  obtain ⟨m', p1, p2⟩ := r_putBack hg.1
  have hSj := nights_IS (law := T 0 4) (t := j) hI hS
  by_cases c : j < 501
  · cases e : fst1 (fun j => (fi K j).isSome) j with
    | some v =>
      have e2 := fst1_mono (m := 501) e (by omega)
      have e3 : rF K 501 = rF K j := by unfold rF; rw [e, e2]
      obtain ⟨w, hw⟩ : ∃ w, rF K j = some w := by
        have := (fst1_some.mp e).2.1
        unfold rF
        rw [e]
        obtain ⟨z, hz⟩ := Option.isSome_iff_exists.mp this
        exact ⟨501 * z + v - z, by simp [fv, hz]⟩
      have hwb : w < 300000 := by
        have h1 := fst1_lt e
        unfold rF at hw
        rw [e] at hw
        unfold fv at hw
        obtain ⟨z, hz, rfl⟩ := Option.map_eq_some_iff.mp hw
        have := fi_lt hz
        omega
      refine Or.inr ⟨_, ⟨m', rfl, p2⟩, fun rec => ?_⟩
      unfold BX5_roundOf_8
      rw [e3, hw]
      simp (disch := omega) only [nm, jn0, jn1, jn2, jn3, jn4, jn5, bnd1_s, bnd2_s, bnd3_s, bnd4_s, lit_n, neg1, chkI_n, chkZ_n, chkC_n, bI_B, chkB_0, chkB_1, bI_t, bI_f, clamp_n, nI_add, subn, remn2, nat_rem, divn, pk_mul, ifle_t, ifle_f, iflt_t, iflt_f, ifeq_t, ifeq_f, ifm_f, ifm_t, if_true, if_false, p1, oI]
    | none =>
      have e3 : rF K j = none := by unfold rF; rw [e]
      obtain ⟨g1, l1, l2, l3⟩ := r_layState (j := j) hg.2.1 hI hg.2.2.1 hSj (by rw [nights_N]; omega) (by omega)
      have hg1 := hg.f14 hI l2
      have hst1 : ∀ i, i < j + 1 → ∀ c, c < 18 → g1 14 (18 * i + c) = nI (sv T (T 0 4) (nights T (T 0 4) S i) c) := by
        intro i hi d hd
        by_cases z : i = j
        · rw [z]; exact l3 d hd
        · rw [l2.2 _ (by omega)]; exact hst i (by omega) d hd
      obtain ⟨g2, n1, n2⟩ := gone_s hI hS i3 (by omega) hg1
      have inner : ∀ (k17 : Int32 → Option (Int32 × GS)), lq2 (BX5_roundOf_27 (nI j) k17 g1) FU mI (nI 0) = k17 (oI (fv K j)) := by
        intro k17
        refine lq2_rel (fun i x y => x = oI ((fst1 (fun i => decide (K i = K j)) i).map (fun i => 501 * i + j - i)) ∧ y = nI i) j (fun r => r = k17 (oI (fv K j))) ?_ _ _ ⟨rfl, rfl⟩ (FU_lt (by omega))
        rintro i x y hi ⟨rfl, rfl⟩
        by_cases d : i < j
        · cases z : fst1 (fun i => decide (K i = K j)) i with
          | some v =>
            have z2 : fi K j = some v := fst1_mono z (by omega)
            have hv := fst1_lt z
            refine Or.inr ⟨_, rfl, fun rec => ?_⟩
            unfold BX5_roundOf_27 fv
            rw [z2]
            simp (disch := omega) only [nm, jn0, jn1, jn2, jn3, jn4, jn5, bnd1_s, bnd2_s, bnd3_s, bnd4_s, lit_n, neg1, chkI_n, chkZ_n, chkC_n, bI_B, chkB_0, chkB_1, bI_t, bI_f, clamp_n, nI_add, subn, remn2, nat_rem, divn, pk_mul, ifle_t, ifle_f, iflt_t, iflt_f, ifeq_t, ifeq_f, ifm_f, ifm_t, if_true, if_false, Option.map_some, oI]
          | none =>
            have hs := fst1_s0 z
            have hl := r_isLike (g := g1) (i := i) (j := j) (by omega) (by omega) (hst1 i (by omega)) (hst1 j (by omega)) (fun c => sv_b hI (nights_IS hI hS)) (fun c => sv_b hI (nights_IS hI hS))
            have hiff := sv_iff (law := T 0 4) hI (nights_IS (law := T 0 4) (t := i) hI hS) hSj i3
            refine Or.inl ⟨d, oI ((fst1 (fun i => decide (K i = K j)) (i + 1)).map (fun i => 501 * i + j - i)), nI (i + 1), ⟨rfl, rfl⟩, fun rec => ?_⟩
            rw [hs]
            unfold BX5_roundOf_27
            by_cases w : K i = K j
            · have w' : ∀ c, c < 18 → sv T (T 0 4) (nights T (T 0 4) S i) c = sv T (T 0 4) (nights T (T 0 4) S j) c := hiff.mpr (by rw [hK] at w; exact w)
              rw [lkU_t w'] at hl
              rw [decide_eq_true w]
              simp (disch := omega) only [nm, jn0, jn1, jn2, jn3, jn4, jn5, bnd1_s, bnd2_s, bnd3_s, bnd4_s, lit_n, neg1, chkI_n, chkZ_n, chkC_n, bI_B, chkB_0, chkB_1, bI_t, bI_f, clamp_n, nI_add, subn, remn2, nat_rem, divn, pk_mul, ifle_t, ifle_f, iflt_t, iflt_f, ifeq_t, ifeq_f, ifm_f, ifm_t, if_true, if_false, hl, Option.map_none, Option.map_some, oI]
            · have w' : ¬ ∀ c, c < 18 → sv T (T 0 4) (nights T (T 0 4) S i) c = sv T (T 0 4) (nights T (T 0 4) S j) c := fun q => w (by rw [hK]; exact hiff.mp q)
              rw [lkU_f w'] at hl
              rw [decide_eq_false w]
              simp (disch := omega) only [nm, jn0, jn1, jn2, jn3, jn4, jn5, bnd1_s, bnd2_s, bnd3_s, bnd4_s, lit_n, neg1, chkI_n, chkZ_n, chkC_n, bI_B, chkB_0, chkB_1, bI_t, bI_f, clamp_n, nI_add, subn, remn2, nat_rem, divn, pk_mul, ifle_t, ifle_f, iflt_t, iflt_f, ifeq_t, ifeq_f, ifm_f, ifm_t, if_true, if_false, hl, Option.map_none, oI, Bool.false_eq_true]
        · have : i = j := by omega
          subst this
          refine Or.inr ⟨_, rfl, fun rec => ?_⟩
          unfold BX5_roundOf_27 fv fi
          simp (disch := omega) only [nm, jn0, jn1, jn2, jn3, jn4, jn5, bnd1_s, bnd2_s, bnd3_s, bnd4_s, lit_n, neg1, chkI_n, chkZ_n, chkC_n, bI_B, chkB_0, chkB_1, bI_t, bI_f, clamp_n, nI_add, subn, remn2, nat_rem, divn, pk_mul, ifle_t, ifle_f, iflt_t, iflt_f, ifeq_t, ifeq_f, ifm_f, ifm_t, if_true, if_false]
      refine Or.inl ⟨c, oI (rF K (j + 1)), nI (j + 1), g2, ⟨rfl, rfl, n2, fun i hi c hc => ?_⟩, fun rec => ?_⟩
      · have hf : g2 14 (18 * i + c) = g1 14 (18 * i + c) := by
          obtain ⟨gq, q1, q2, q3⟩ := r_goNight hg1.2.1 hI hg1.2.2.1 hSj hg1.2.2.2 i3 (by rw [nights_N]; omega)
          rw [q1] at n1
          cases n1
          exact q2 14 _ (by decide) (by decide) (by simp)
        rw [hf]; exact hst1 i hi c hc
      · rw [rF_s e, e3]
        unfold BX5_roundOf_8
        simp (disch := omega) only [nm, jn0, jn1, jn2, jn3, jn4, jn5, bnd1_s, bnd2_s, bnd3_s, bnd4_s, lit_n, neg1, chkI_n, chkZ_n, chkC_n, bI_B, chkB_0, chkB_1, bI_t, bI_f, clamp_n, nI_add, subn, remn2, nat_rem, divn, pk_mul, ifle_t, ifle_f, iflt_t, iflt_f, ifeq_t, ifeq_f, ifm_f, ifm_t, if_true, if_false, l1, oI, inner, n1]
  · have : j = 501 := by omega
    subst this
    refine Or.inr ⟨_, ⟨m', rfl, p2⟩, fun rec => ?_⟩
    unfold BX5_roundOf_8
    simp (disch := omega) only [nm, jn0, jn1, jn2, jn3, jn4, jn5, bnd1_s, bnd2_s, bnd3_s, bnd4_s, lit_n, neg1, chkI_n, chkZ_n, chkC_n, bI_B, chkB_0, chkB_1, bI_t, bI_f, clamp_n, nI_add, subn, remn2, nat_rem, divn, pk_mul, ifle_t, ifle_f, iflt_t, iflt_f, ifeq_t, ifeq_f, ifm_f, ifm_t, if_true, if_false, p1]
theorem r_round {tT gN mM : GS} {T S : NN} (hB : BV tT gN mM T S) {w : Nat} (hw : w ≤ 1) : ∃ m', MX5_round mM (nI w) = some (rdA (fun j => stK T (T 0 4) (nights T (T 0 4) S j)) w, m') ∧ fFs mM m' := by
  obtain ⟨m', h1, h2⟩ := r_roundOf hB
  have e := r_in (k := w) (lo := 0) (hi := 1) (by omega) (by decide) (by decide)
  rw [decide_eq_true (by omega)] at e
  refine ⟨m', ?_, h2⟩
  unfold MX5_round rdA rd
  generalize (fun j => stK T (T 0 4) (nights T (T 0 4) S j)) = K at *
  unfold rF at h1
  cases z : fst1 (fun j => (fi K j).isSome) 501 with
  | none =>
    rw [z] at h1
    simp (disch := omega) only [nm, jn0, jn1, jn2, jn3, jn4, jn5, bnd1_s, bnd2_s, bnd3_s, bnd4_s, lit_n, neg1, chkI_n, chkZ_n, chkC_n, bI_B, chkB_0, chkB_1, bI_t, bI_f, clamp_n, nI_add, subn, remn2, nat_rem, divn, pk_mul, ifle_t, ifle_f, iflt_t, iflt_f, ifeq_t, ifeq_f, ifm_f, ifm_t, if_true, if_false, e, h1, oI]
  | some j =>
    rw [z] at h1
    have hj := fst1_lt z
    obtain ⟨i, hi⟩ := Option.isSome_iff_exists.mp (fst1_some.mp z).2.1
    have hij := fi_lt hi
    have h3 : fv K j = some (501 * i + j - i) := by simp [fv, hi]
    have h1 : MX5_roundOf mM = some (oI (fv K j), m') := h1
    rw [h3] at h1
    have d1 : (501 * i + j - i) / 501 = i := by omega
    have d2 : (501 * i + j - i) % 501 = j - i := by omega
    simp only [hi]
    by_cases y : w = 0
    · simp (disch := omega) only [nm, jn0, jn1, jn2, jn3, jn4, jn5, bnd1_s, bnd2_s, bnd3_s, bnd4_s, lit_n, neg1, chkI_n, chkZ_n, chkC_n, bI_B, chkB_0, chkB_1, bI_t, bI_f, clamp_n, nI_add, subn, remn2, nat_rem, divn, pk_mul, ifle_t, ifle_f, iflt_t, iflt_f, ifeq_t, ifeq_f, ifm_f, ifm_t, if_true, if_false, e, h1, oI, if_pos y, d1]
    · simp (disch := omega) only [nm, jn0, jn1, jn2, jn3, jn4, jn5, bnd1_s, bnd2_s, bnd3_s, bnd4_s, lit_n, neg1, chkI_n, chkZ_n, chkC_n, bI_B, chkB_0, chkB_1, bI_t, bI_f, clamp_n, nI_add, subn, remn2, nat_rem, divn, pk_mul, ifle_t, ifle_f, iflt_t, iflt_f, ifeq_t, ifeq_f, ifm_f, ifm_t, if_true, if_false, e, h1, oI, if_neg y, d2]
theorem f_round {tT gN mM : GS} {T S : NN} (hB : BV tT gN mM T S) (gA : GS) (fA : Nat → Int32) (lP : Nat → Int64) (i1 : Int32) : ∃ r gA' fA' lP' m', MX4_round tT gN gA fA lP i1 = some (r, gA', fA', lP') ∧ MX5_round mM i1 = some (r, m') ∧ fFs mM m' := by
  rcases arg i1 with k | ⟨w, hw, rfl⟩
  · have e := r_inN (i := i1) (hi := nI 1) (lo := 0) k (by decide)
    unfold MX4_round MX5_round
    simp (disch := omega) only [nm, jn0, jn1, jn2, jn3, jn4, jn5, bnd1_s, bnd2_s, bnd3_s, bnd4_s, lit_n, neg1, chkI_n, chkZ_n, chkC_n, bI_B, chkB_0, chkB_1, bI_t, bI_f, clamp_n, nI_add, subn, remn2, nat_rem, divn, pk_mul, ifle_t, ifle_f, iflt_t, iflt_f, ifeq_t, ifeq_f, ifm_f, ifm_t, if_true, if_false, e, ifneg k]
    exact ⟨_, _, _, _, _, rfl, rfl, fFs.refl⟩
  · by_cases c : w ≤ 1
    · obtain ⟨gA', fA', lP', k1⟩ := c_round hB gA fA lP c
      obtain ⟨m', k2, k3⟩ := r_round hB c
      exact ⟨_, gA', fA', lP', m', k1, k2, k3⟩
    · have e := r_in (k := w) (lo := 0) (hi := 1) hw (by decide) (by decide)
      rw [decide_eq_false (by omega)] at e
      unfold MX4_round MX5_round
      simp (disch := omega) only [nm, jn0, jn1, jn2, jn3, jn4, jn5, bnd1_s, bnd2_s, bnd3_s, bnd4_s, lit_n, neg1, chkI_n, chkZ_n, chkC_n, bI_B, chkB_0, chkB_1, bI_t, bI_f, clamp_n, nI_add, subn, remn2, nat_rem, divn, pk_mul, ifle_t, ifle_f, iflt_t, iflt_f, ifeq_t, ifeq_f, ifm_f, ifm_t, if_true, if_false, e]
      exact ⟨_, _, _, _, _, rfl, rfl, fFs.refl⟩
