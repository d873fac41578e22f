theorem isHouse_1 {tT : GS} {T : NN} (hT : RT tT T) (hI : IT T) {h : Nat} (hh : h < T 0 1) : MX4_isHouse tT (nI h) = some (nI 1) := by
  have i2 := hI.1.2.2.1
  have t1 := hT.1.2.1
  unfold MX4_isHouse
  simp (disch := omega) only [nm, jn0, jn1, jn2, jn3, jn4, jn5, bnd1_s, bnd2_s, bnd3_s, bnd4_s, lit_n, neg1, chkI_n, chkZ_n, chkC_n, bI_B, chkB_0, chkB_1, bI_t, bI_f, clamp_n, nI_add, subn, remn2, nat_rem, divn, pk_mul, ifle_t, ifle_f, iflt_t, iflt_f, ifeq_t, ifeq_f, ifm_f, ifm_t, if_true, if_false, t1]
theorem isHouse_2 {mM : GS} {T : NN} (hM : RM mM T) (hI : IT T) {h : Nat} (hh : h < T 0 1) : MX5_isHouse mM (nI h) = some (nI 1) := by
  have i2 := hI.1.2.2.1
  have m1 := hM.1.2.1
  unfold MX5_isHouse MX5_in
  simp (disch := omega) only [nm, jn0, jn1, jn2, jn3, jn4, jn5, bnd1_s, bnd2_s, bnd3_s, bnd4_s, lit_n, neg1, chkI_n, chkZ_n, chkC_n, bI_B, chkB_0, chkB_1, bI_t, bI_f, clamp_n, nI_add, subn, remn2, nat_rem, divn, pk_mul, ifle_t, ifle_f, iflt_t, iflt_f, ifeq_t, ifeq_f, ifm_f, ifm_t, if_true, if_false, m1]
theorem in_b (i hi : Int32) (lo : Nat) (hlo : lo < 2147483648) : ∃ b : Bool, MX5_in i (nI lo) hi = some (bI b) := by
  unfold MX5_in
  by_cases a : i < nI lo
  · exact ⟨false, by simp (disch := omega) only [nm, jn0, jn1, jn2, jn3, jn4, jn5, bnd1_s, bnd2_s, bnd3_s, bnd4_s, lit_n, neg1, chkI_n, chkZ_n, chkC_n, bI_B, chkB_0, chkB_1, bI_t, bI_f, clamp_n, nI_add, subn, remn2, nat_rem, divn, pk_mul, ifle_t, ifle_f, iflt_t, iflt_f, ifeq_t, ifeq_f, ifm_f, ifm_t, if_true, if_false, if_pos a]⟩
  · by_cases b : hi < i
    · exact ⟨false, by simp (disch := omega) only [nm, jn0, jn1, jn2, jn3, jn4, jn5, bnd1_s, bnd2_s, bnd3_s, bnd4_s, lit_n, neg1, chkI_n, chkZ_n, chkC_n, bI_B, chkB_0, chkB_1, bI_t, bI_f, clamp_n, nI_add, subn, remn2, nat_rem, divn, pk_mul, ifle_t, ifle_f, iflt_t, iflt_f, ifeq_t, ifeq_f, ifm_f, ifm_t, if_true, if_false, if_neg a, if_pos b]⟩
    · exact ⟨true, by simp (disch := omega) only [nm, jn0, jn1, jn2, jn3, jn4, jn5, bnd1_s, bnd2_s, bnd3_s, bnd4_s, lit_n, neg1, chkI_n, chkZ_n, chkC_n, bI_B, chkB_0, chkB_1, bI_t, bI_f, clamp_n, nI_add, subn, remn2, nat_rem, divn, pk_mul, ifle_t, ifle_f, iflt_t, iflt_f, ifeq_t, ifeq_f, ifm_f, ifm_t, if_true, if_false, if_neg a, if_neg b]⟩
theorem n23 : ¬ (-nI 2 : Int32) = nI 0 ∧ ¬ (-nI 3 : Int32) = nI 0 := by decide
/-- two houses and a what of 0, 1; or refused -/
theorem pair_c {tT mM : GS} {T : NN} (hT : RT tT T) (hI : IT T) (hM : RM mM T) (i1 i2 i3 : Int32) : (∃ c, ¬ c = nI 0 ∧ MX4_refusePair tT i1 i2 i3 = some c ∧ ∀ b : Bool, (b = true → MX5_in i3 (nI 0) (nI 1) = some (nI 1)) → MX5_whyNot mM i1 i2 (bI b) = some c) ∨ ∃ a b w, a < T 0 1 ∧ b < T 0 1 ∧ a ≠ b ∧ w ≤ 1 ∧ i1 = nI a ∧ i2 = nI b ∧ i3 = nI w ∧ MX4_refusePair tT i1 i2 i3 = some (nI 0) ∧ MX5_whyNot mM i1 i2 (nI 1) = some (nI 0) ∧ MX5_whyNot mM i1 i2 (nI 0) = some (-nI 3) ∧ MX5_in i3 (nI 0) (nI 1) = some (nI 1) := by
  have i2' := hI.1.2.2.1
  unfold MX4_refusePair MX5_whyNot
  rcases isHouse_c hT hI hM i1 with ⟨h1, h2⟩ | ⟨a, ha, rfl, h1, h2⟩
  · left
    refine ⟨-nI 2, n23.1, ?_, fun b _ => ?_⟩
    · simp (disch := omega) only [nm, jn0, jn1, jn2, jn3, jn4, jn5, bnd1_s, bnd2_s, bnd3_s, bnd4_s, lit_n, neg1, chkI_n, chkZ_n, chkC_n, bI_B, chkB_0, chkB_1, bI_t, bI_f, clamp_n, nI_add, subn, remn2, nat_rem, divn, pk_mul, ifle_t, ifle_f, iflt_t, iflt_f, ifeq_t, ifeq_f, ifm_f, ifm_t, if_true, if_false, h1]
    · simp (disch := omega) only [nm, jn0, jn1, jn2, jn3, jn4, jn5, bnd1_s, bnd2_s, bnd3_s, bnd4_s, lit_n, neg1, chkI_n, chkZ_n, chkC_n, bI_B, chkB_0, chkB_1, bI_t, bI_f, clamp_n, nI_add, subn, remn2, nat_rem, divn, pk_mul, ifle_t, ifle_f, iflt_t, iflt_f, ifeq_t, ifeq_f, ifm_f, ifm_t, if_true, if_false, h2]
  · rcases isHouse_c hT hI hM i2 with ⟨g1, g2⟩ | ⟨b, hb, rfl, g1, g2⟩
    · left
      refine ⟨-nI 2, n23.1, ?_, fun b _ => ?_⟩
      · simp (disch := omega) only [nm, jn0, jn1, jn2, jn3, jn4, jn5, bnd1_s, bnd2_s, bnd3_s, bnd4_s, lit_n, neg1, chkI_n, chkZ_n, chkC_n, bI_B, chkB_0, chkB_1, bI_t, bI_f, clamp_n, nI_add, subn, remn2, nat_rem, divn, pk_mul, ifle_t, ifle_f, iflt_t, iflt_f, ifeq_t, ifeq_f, ifm_f, ifm_t, if_true, if_false, h1, g1]
      · simp (disch := omega) only [nm, jn0, jn1, jn2, jn3, jn4, jn5, bnd1_s, bnd2_s, bnd3_s, bnd4_s, lit_n, neg1, chkI_n, chkZ_n, chkC_n, bI_B, chkB_0, chkB_1, bI_t, bI_f, clamp_n, nI_add, subn, remn2, nat_rem, divn, pk_mul, ifle_t, ifle_f, iflt_t, iflt_f, ifeq_t, ifeq_f, ifm_f, ifm_t, if_true, if_false, h2, g2]
    · by_cases c : a = b
      · left
        refine ⟨-nI 3, n23.2, ?_, fun b _ => ?_⟩
        · simp (disch := omega) only [nm, jn0, jn1, jn2, jn3, jn4, jn5, bnd1_s, bnd2_s, bnd3_s, bnd4_s, lit_n, neg1, chkI_n, chkZ_n, chkC_n, bI_B, chkB_0, chkB_1, bI_t, bI_f, clamp_n, nI_add, subn, remn2, nat_rem, divn, pk_mul, ifle_t, ifle_f, iflt_t, iflt_f, ifeq_t, ifeq_f, ifm_f, ifm_t, if_true, if_false, h1, g1]
          split
          · rfl
          · split <;> rfl
        · simp (disch := omega) only [nm, jn0, jn1, jn2, jn3, jn4, jn5, bnd1_s, bnd2_s, bnd3_s, bnd4_s, lit_n, neg1, chkI_n, chkZ_n, chkC_n, bI_B, chkB_0, chkB_1, bI_t, bI_f, clamp_n, nI_add, subn, remn2, nat_rem, divn, pk_mul, ifle_t, ifle_f, iflt_t, iflt_f, ifeq_t, ifeq_f, ifm_f, ifm_t, if_true, if_false, h2, g2]
      · rcases arg i3 with k | ⟨w, hw, rfl⟩
        · left
          refine ⟨-nI 3, n23.2, ?_, fun b hb => ?_⟩
          · simp (disch := omega) only [nm, jn0, jn1, jn2, jn3, jn4, jn5, bnd1_s, bnd2_s, bnd3_s, bnd4_s, lit_n, neg1, chkI_n, chkZ_n, chkC_n, bI_B, chkB_0, chkB_1, bI_t, bI_f, clamp_n, nI_add, subn, remn2, nat_rem, divn, pk_mul, ifle_t, ifle_f, iflt_t, iflt_f, ifeq_t, ifeq_f, ifm_f, ifm_t, if_true, if_false, h1, g1, ifneg k]
          · cases b with
            | false => simp (disch := omega) only [nm, jn0, jn1, jn2, jn3, jn4, jn5, bnd1_s, bnd2_s, bnd3_s, bnd4_s, lit_n, neg1, chkI_n, chkZ_n, chkC_n, bI_B, chkB_0, chkB_1, bI_t, bI_f, clamp_n, nI_add, subn, remn2, nat_rem, divn, pk_mul, ifle_t, ifle_f, iflt_t, iflt_f, ifeq_t, ifeq_f, ifm_f, ifm_t, if_true, if_false, h2, g2]
            | true =>
              have := hb rfl
              rw [r_inN k (by decide)] at this
              cases this
        · have e := r_in (k := w) (lo := 0) (hi := 1) hw (by decide) (by decide)
          by_cases d : w ≤ 1
          · right
            rw [decide_eq_true (by omega)] at e
            refine ⟨a, b, w, ha, hb, c, d, rfl, rfl, rfl, ?_, ?_, ?_, e⟩
            · simp (disch := omega) only [nm, jn0, jn1, jn2, jn3, jn4, jn5, bnd1_s, bnd2_s, bnd3_s, bnd4_s, lit_n, neg1, chkI_n, chkZ_n, chkC_n, bI_B, chkB_0, chkB_1, bI_t, bI_f, clamp_n, nI_add, subn, remn2, nat_rem, divn, pk_mul, ifle_t, ifle_f, iflt_t, iflt_f, ifeq_t, ifeq_f, ifm_f, ifm_t, if_true, if_false, h1, g1]
            · simp (disch := omega) only [nm, jn0, jn1, jn2, jn3, jn4, jn5, bnd1_s, bnd2_s, bnd3_s, bnd4_s, lit_n, neg1, chkI_n, chkZ_n, chkC_n, bI_B, chkB_0, chkB_1, bI_t, bI_f, clamp_n, nI_add, subn, remn2, nat_rem, divn, pk_mul, ifle_t, ifle_f, iflt_t, iflt_f, ifeq_t, ifeq_f, ifm_f, ifm_t, if_true, if_false, h2, g2]
            · simp (disch := omega) only [nm, jn0, jn1, jn2, jn3, jn4, jn5, bnd1_s, bnd2_s, bnd3_s, bnd4_s, lit_n, neg1, chkI_n, chkZ_n, chkC_n, bI_B, chkB_0, chkB_1, bI_t, bI_f, clamp_n, nI_add, subn, remn2, nat_rem, divn, pk_mul, ifle_t, ifle_f, iflt_t, iflt_f, ifeq_t, ifeq_f, ifm_f, ifm_t, if_true, if_false, h2, g2]
          · left
            rw [decide_eq_false (by omega)] at e
            refine ⟨-nI 3, n23.2, ?_, fun b hb => ?_⟩
            · simp (disch := omega) only [nm, jn0, jn1, jn2, jn3, jn4, jn5, bnd1_s, bnd2_s, bnd3_s, bnd4_s, lit_n, neg1, chkI_n, chkZ_n, chkC_n, bI_B, chkB_0, chkB_1, bI_t, bI_f, clamp_n, nI_add, subn, remn2, nat_rem, divn, pk_mul, ifle_t, ifle_f, iflt_t, iflt_f, ifeq_t, ifeq_f, ifm_f, ifm_t, if_true, if_false, h1, g1]
            · cases b with
              | false => simp (disch := omega) only [nm, jn0, jn1, jn2, jn3, jn4, jn5, bnd1_s, bnd2_s, bnd3_s, bnd4_s, lit_n, neg1, chkI_n, chkZ_n, chkC_n, bI_B, chkB_0, chkB_1, bI_t, bI_f, clamp_n, nI_add, subn, remn2, nat_rem, divn, pk_mul, ifle_t, ifle_f, iflt_t, iflt_f, ifeq_t, ifeq_f, ifm_f, ifm_t, if_true, if_false, h2, g2]
              | true =>
                have := hb rfl
                rw [e] at this
                cases this
theorem f_touch {tT gN mM : GS} {T S : NN} (hB : BV tT gN mM T S) (i1 i2 i3 : Int32) : ∃ r, MX4_touch tT gN i1 i2 i3 = some r ∧ MX5_touch mM i1 i2 i3 = some r := by
  obtain ⟨hT, hI, hR, hS, hNb, hM, hN⟩ := hB
  unfold MX4_touch MX5_touch
  rcases pair_c hT hI hM i1 i2 i3 with ⟨c, h1, h2, h3⟩ | ⟨a, b, w, ha, hb, hne, hw, rfl, rfl, rfl, e1, e2, e3, e4⟩
  · obtain ⟨v, hv⟩ := in_b i3 (nI 1) 0 (by decide)
    have := h3 v (fun z => by rw [hv, z]; rfl)
    simp (disch := omega) only [nm, jn0, jn1, jn2, jn3, jn4, jn5, bnd1_s, bnd2_s, bnd3_s, bnd4_s, lit_n, neg1, chkI_n, chkZ_n, chkC_n, bI_B, chkB_0, chkB_1, bI_t, bI_f, clamp_n, nI_add, subn, remn2, nat_rem, divn, pk_mul, ifle_t, ifle_f, iflt_t, iflt_f, ifeq_t, ifeq_f, ifm_f, ifm_t, if_true, if_false, h2, hv, this, if_neg h1]
    exact ⟨c, rfl, rfl⟩
  · have p := p_meets hT hI hR.1 hS.1 ha hb (w := w) (by omega)
    have r := r_doTouch hM hI hN.1 hS.1 ha hb (w := w) (by omega)
    cases e : mts T (S 1) a b w with
    | true =>
      rw [e] at p r
      simp (disch := omega) only [nm, jn0, jn1, jn2, jn3, jn4, jn5, bnd1_s, bnd2_s, bnd3_s, bnd4_s, lit_n, neg1, chkI_n, chkZ_n, chkC_n, bI_B, chkB_0, chkB_1, bI_t, bI_f, clamp_n, nI_add, subn, remn2, nat_rem, divn, pk_mul, ifle_t, ifle_f, iflt_t, iflt_f, ifeq_t, ifeq_f, ifm_f, ifm_t, if_true, if_false, e1, e2, e4, p, r]
      exact ⟨_, rfl, rfl⟩
    | false =>
      rw [e] at p r
      simp (disch := omega) only [nm, jn0, jn1, jn2, jn3, jn4, jn5, bnd1_s, bnd2_s, bnd3_s, bnd4_s, lit_n, neg1, chkI_n, chkZ_n, chkC_n, bI_B, chkB_0, chkB_1, bI_t, bI_f, clamp_n, nI_add, subn, remn2, nat_rem, divn, pk_mul, ifle_t, ifle_f, iflt_t, iflt_f, ifeq_t, ifeq_f, ifm_f, ifm_t, if_true, if_false, e1, e2, e4, p, r]
      exact ⟨_, rfl, rfl⟩
/-! later -/
theorem c_later {tT gN mM : GS} {T S : NN} (hB : BV tT gN mM T S) (gA : GS) (fA : Nat → Int32) {h t : Nat} (hh : h < T 0 1) (ht : t ≤ 99) : ∃ gA' fA', MX4_later tT gN gA fA (nI h) (nI t) = some (nI (nights T (T 0 4) S t 1 h), gA', fA') := by
  obtain ⟨hT, hI, hR, hS, hNb, hM, hN⟩ := hB
  have i3 := hI.1.2.2.2.2.2.1
  have i2 := hI.1.2.2.1
  have t4 := hT.1.2.2.2.2.1
  have h1 := isHouse_1 hT hI hh
  obtain ⟨g0, hc, hcR⟩ := p_copyS (gS := gA) hI hR
  unfold MX4_later
  simp (disch := omega) only [nm, jn0, jn1, jn2, jn3, jn4, jn5, bnd1_s, bnd2_s, bnd3_s, bnd4_s, lit_n, neg1, chkI_n, chkZ_n, chkC_n, bI_B, chkB_0, chkB_1, bI_t, bI_f, clamp_n, nI_add, subn, remn2, nat_rem, divn, pk_mul, ifle_t, ifle_f, iflt_t, iflt_f, ifeq_t, ifeq_f, ifm_f, ifm_t, if_true, if_false, h1, hc]
  refine lq3_rel (fun i x (g : GS) (f : Nat → Int32) => x = nI i ∧ RS g T (nights T (T 0 4) S i) 0) t (fun r => ∃ gA' fA', r = some (nI (nights T (T 0 4) S t 1 h), gA', fA')) ?_ _ _ _ ⟨rfl, hcR⟩ (FU_lt (by omega))
  rintro i x g f hi ⟨rfl, hg⟩
  by_cases c2 : i < t
  · obtain ⟨g', f', e1, e2⟩ := p_n0 hT hI hg (nights_IS hI hS) (by rw [nights_N]; omega) i3 f
    refine Or.inl ⟨c2, nI (i + 1), g', f', ⟨rfl, e2⟩, fun rec => ?_⟩
    unfold BX4_later_37
    simp (disch := omega) only [nm, jn0, jn1, jn2, jn3, jn4, jn5, bnd1_s, bnd2_s, bnd3_s, bnd4_s, lit_n, neg1, chkI_n, chkZ_n, chkC_n, bI_B, chkB_0, chkB_1, bI_t, bI_f, clamp_n, nI_add, subn, remn2, nat_rem, divn, pk_mul, ifle_t, ifle_f, iflt_t, iflt_f, ifeq_t, ifeq_f, ifm_f, ifm_t, if_true, if_false, t4, e1]
  · have : i = t := by omega
    subst this
    have e3 := hg.1 h hh
    refine Or.inr ⟨_, ⟨g, f, rfl⟩, fun rec => ?_⟩
    unfold BX4_later_37
    simp (disch := omega) only [nm, jn0, jn1, jn2, jn3, jn4, jn5, bnd1_s, bnd2_s, bnd3_s, bnd4_s, lit_n, neg1, chkI_n, chkZ_n, chkC_n, bI_B, chkB_0, chkB_1, bI_t, bI_f, clamp_n, nI_add, subn, remn2, nat_rem, divn, pk_mul, ifle_t, ifle_f, iflt_t, iflt_f, ifeq_t, ifeq_f, ifm_f, ifm_t, if_true, if_false, e3]
theorem r_later {tT gN mM : GS} {T S : NN} (hB : BV tT gN mM T S) {h t : Nat} (hh : h < T 0 1) (ht : t ≤ 99) : ∃ m', MX5_later mM (nI h) (nI t) = some (nI (nights T (T 0 4) S t 1 h), m') ∧ fFs mM m' := by
  obtain ⟨hT, hI, hR, hS, hNb, hM, hN⟩ := hB
  have i3 := hI.1.2.2.2.2.2.1
  have i2 := hI.1.2.2.1
  have h2 := isHouse_2 hM hI hh
  have e := r_in (k := t) (lo := 0) (hi := 99) (by omega) (by decide) (by decide)
  rw [decide_eq_true (by omega)] at e
  obtain ⟨m1, a1, a2, a3, a4⟩ := r_putAside mM
  unfold MX5_later
  simp (disch := omega) only [nm, jn0, jn1, jn2, jn3, jn4, jn5, bnd1_s, bnd2_s, bnd3_s, bnd4_s, lit_n, neg1, chkI_n, chkZ_n, chkC_n, bI_B, chkB_0, chkB_1, bI_t, bI_f, clamp_n, nI_add, subn, remn2, nat_rem, divn, pk_mul, ifle_t, ifle_f, iflt_t, iflt_f, ifeq_t, ifeq_f, ifm_f, ifm_t, if_true, if_false, h2, e, a1]
  refine lq2_rel (fun i x (g : GS) => x = nI i ∧ gone mM g T S (T 0 4) i) t (fun r => ∃ m', r = some (nI (nights T (T 0 4) S t 1 h), m') ∧ fFs mM m') ?_ _ _ ⟨rfl, gone_0 hI hM hN a2 a3 a4⟩ (FU_lt (by omega))
  rintro i x g hi ⟨rfl, hg⟩
  by_cases c2 : i < t
  · obtain ⟨g', e1, e2⟩ := gone_s hI hS i3 (by omega) hg
    refine Or.inl ⟨c2, nI (i + 1), g', ⟨rfl, e2⟩, fun rec => ?_⟩
    unfold BX5_later_30
    simp (disch := omega) only [nm, jn0, jn1, jn2, jn3, jn4, jn5, bnd1_s, bnd2_s, bnd3_s, bnd4_s, lit_n, neg1, chkI_n, chkZ_n, chkC_n, bI_B, chkB_0, chkB_1, bI_t, bI_f, clamp_n, nI_add, subn, remn2, nat_rem, divn, pk_mul, ifle_t, ifle_f, iflt_t, iflt_f, ifeq_t, ifeq_f, ifm_f, ifm_t, if_true, if_false, e1]
  · have : i = t := by omega
    subst this
    obtain ⟨m', e1, e2⟩ := r_putBack hg.1
    have e3 := hg.2.2.1.1 h hh
    refine Or.inr ⟨_, ⟨m', rfl, e2⟩, fun rec => ?_⟩
    unfold BX5_later_30
    simp (disch := omega) only [nm, jn0, jn1, jn2, jn3, jn4, jn5, bnd1_s, bnd2_s, bnd3_s, bnd4_s, lit_n, neg1, chkI_n, chkZ_n, chkC_n, bI_B, chkB_0, chkB_1, bI_t, bI_f, clamp_n, nI_add, subn, remn2, nat_rem, divn, pk_mul, ifle_t, ifle_f, iflt_t, iflt_f, ifeq_t, ifeq_f, ifm_f, ifm_t, if_true, if_false, e1, e3]
theorem f_later {tT gN mM : GS} {T S : NN} (hB : BV tT gN mM T S) (gA : GS) (fA : Nat → Int32) (i1 i2 : Int32) : ∃ r gA' fA' m', MX4_later tT gN gA fA i1 i2 = some (r, gA', fA') ∧ MX5_later mM i1 i2 = some (r, m') ∧ fFs mM m' := by
  have hB' := hB
  obtain ⟨hT, hI, hR, hS, hNb, hM, hN⟩ := hB'
  rcases isHouse_c hT hI hM i1 with ⟨h1, h2⟩ | ⟨h, hh, rfl, h1, h2⟩
  · unfold MX4_later MX5_later
    simp (disch := omega) only [nm, jn0, jn1, jn2, jn3, jn4, jn5, bnd1_s, bnd2_s, bnd3_s, bnd4_s, lit_n, neg1, chkI_n, chkZ_n, chkC_n, bI_B, chkB_0, chkB_1, bI_t, bI_f, clamp_n, nI_add, subn, remn2, nat_rem, divn, pk_mul, ifle_t, ifle_f, iflt_t, iflt_f, ifeq_t, ifeq_f, ifm_f, ifm_t, if_true, if_false, h1, h2]
    exact ⟨_, _, _, _, rfl, rfl, fFs.refl⟩
  · rcases arg i2 with k | ⟨t, ht, rfl⟩
    · have e := r_inN (i := i2) (hi := nI 99) (lo := 0) k (by decide)
      unfold MX4_later MX5_later
      simp (disch := omega) only [nm, jn0, jn1, jn2, jn3, jn4, jn5, bnd1_s, bnd2_s, bnd3_s, bnd4_s, lit_n, neg1, chkI_n, chkZ_n, chkC_n, bI_B, chkB_0, chkB_1, bI_t, bI_f, clamp_n, nI_add, subn, remn2, nat_rem, divn, pk_mul, ifle_t, ifle_f, iflt_t, iflt_f, ifeq_t, ifeq_f, ifm_f, ifm_t, if_true, if_false, h1, h2, e, ifneg k]
      exact ⟨_, _, _, _, rfl, rfl, fFs.refl⟩
    · by_cases c : t ≤ 99
      · obtain ⟨gA', fA', e1⟩ := c_later hB gA fA hh c
        obtain ⟨m', e2, e3⟩ := r_later hB hh c
        exact ⟨_, gA', fA', m', e1, e2, e3⟩
      · have e := r_in (k := t) (lo := 0) (hi := 99) ht (by decide) (by decide)
        rw [decide_eq_false (by omega)] at e
        unfold MX4_later MX5_later
        simp (disch := omega) only [nm, jn0, jn1, jn2, jn3, jn4, jn5, bnd1_s, bnd2_s, bnd3_s, bnd4_s, lit_n, neg1, chkI_n, chkZ_n, chkC_n, bI_B, chkB_0, chkB_1, bI_t, bI_f, clamp_n, nI_add, subn, remn2, nat_rem, divn, pk_mul, ifle_t, ifle_f, iflt_t, iflt_f, ifeq_t, ifeq_f, ifm_f, ifm_t, if_true, if_false, h1, h2, e]
        exact ⟨_, _, _, _, rfl, rfl, fFs.refl⟩
