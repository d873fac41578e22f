/-! when, often -/
theorem mk_bes {T : NN} {B a b : Nat} {P : Nat → Nat} : bes (mk T B) P a b = bes T P a b := by
  unfold bes
  simp only [mk_sOn, mk_r (T := T) (B := B) (i := 0) (by decide)]
theorem mk_mts {T : NN} {B a b w : Nat} {P : Nat → Nat} : mts (mk T B) P a b w = mts T P a b w := by
  unfold mts opN
  simp only [mk_bes, mk_r (T := T) (B := B) (i := 0) (by decide)]
theorem fst1_lt {p : Nat → Bool} {n a : Nat} (h : fst1 p n = some a) : a < n := (fst1_some.mp h).1
theorem fst1_mono {p : Nat → Bool} {n m a : Nat} (h : fst1 p n = some a) (hm : n ≤ m) : fst1 p m = some a := by
  obtain ⟨h1, h2, h3⟩ := fst1_some.mp h
  exact fst1_some.mpr ⟨by omega, h2, h3⟩
theorem fst1_s0 {p : Nat → Bool} {n : Nat} (h : fst1 p n = none) : fst1 p (n + 1) = if p n = true then some n else none := by
  unfold fst1
  rw [h]
theorem p_firstMeeting {gS tT : GS} {T S : NN} {B a b w last : Nat} (hT : RT tT T) (hI : IT T) (hR : RS gS T S B) (hS : IS T S) (hB : B < 256) (hNb : S 0 5 ≤ 9999) (ha : a < T 0 1) (hb : b < T 0 1) (hw : w < 100) (hl : last < 1000) (fA : Nat → Int32) : ∃ g' f', MX4_firstMeeting tT gS fA (nI a) (nI b) (nI w) (nI last) = some (oI (fst1 (fun t => mts T (nights (mk T B) (T 0 4) S t 1) a b w) (last + 1)), g', f') := by
  have i3 := hI.1.2.2.2.2.2.1
  have t4 := hT.1.2.2.2.2.1
  unfold MX4_firstMeeting
  simp only [jn2, jn3]
  refine lq3_rel (fun i x (g : GS) (f : Nat → Int32) => x = nI i ∧ RS g T (nights (mk T B) (T 0 4) S i) B ∧ fst1 (fun t => mts T (nights (mk T B) (T 0 4) S t 1) a b w) i = none) (last + 1) (fun r => ∃ g' f', r = some (oI (fst1 (fun t => mts T (nights (mk T B) (T 0 4) S t 1) a b w) (last + 1)), g', f')) ?_ _ _ _ ⟨rfl, hR, rfl⟩ (FU_lt (by omega))
  rintro i x g f hi ⟨rfl, hg, hn⟩
  have hSi : IS T (nights (mk T B) (T 0 4) S i) := IS_mk.mp (nights_IS (IT_mk hI) (IS_mk.mpr hS))
  by_cases c2 : i < last + 1
  · have hm := p_meets hT hI hg.1 hSi.1 ha hb hw
    have hs := fst1_s0 hn
    cases e : mts T (nights (mk T B) (T 0 4) S i 1) a b w with
    | true =>
      rw [e] at hm hs
      have e2 := fst1_mono (m := last + 1) (hs.trans (if_pos rfl)) (by omega)
      refine Or.inr ⟨_, ⟨g, f, rfl⟩, fun rec => ?_⟩
      unfold BX4_firstMeeting_3
      rw [e2]
      simp (disch := omega) only [nm, jn0, jn1, jn2, jn3, jn4, jn5, bnd1_s, bnd2_s, bnd3_s, bnd4_s, lit_n, neg1, chkI_n, chkZ_n, chkC_n, bI_B, chkB_0, chkB_1, bI_t, bI_f, clamp_n, nI_add, subn, remn2, nat_rem, divn, pk_mul, ifle_t, ifle_f, iflt_t, iflt_f, ifeq_t, ifeq_f, ifm_f, ifm_t, if_true, if_false, hm, oI]
    | false =>
      rw [e] at hm hs
      obtain ⟨g', f', e1, e2⟩ := p_passNight hT hI hg hSi (by rw [nights_N]; omega) hB i3 f
      refine Or.inl ⟨c2, nI (i + 1), g', f', ⟨rfl, e2, by rw [hs]; simp⟩, fun rec => ?_⟩
      unfold BX4_firstMeeting_3
      simp (disch := omega) only [nm, jn0, jn1, jn2, jn3, jn4, jn5, bnd1_s, bnd2_s, bnd3_s, bnd4_s, lit_n, neg1, chkI_n, chkZ_n, chkC_n, bI_B, chkB_0, chkB_1, bI_t, bI_f, clamp_n, nI_add, subn, remn2, nat_rem, divn, pk_mul, ifle_t, ifle_f, iflt_t, iflt_f, ifeq_t, ifeq_f, ifm_f, ifm_t, if_true, if_false, hm, t4, e1]
  · have : i = last + 1 := by omega
    subst this
    refine Or.inr ⟨_, ⟨g, f, rfl⟩, fun rec => ?_⟩
    unfold BX4_firstMeeting_3
    rw [hn]
    simp (disch := omega) only [nm, jn0, jn1, jn2, jn3, jn4, jn5, bnd1_s, bnd2_s, bnd3_s, bnd4_s, lit_n, neg1, chkI_n, chkZ_n, chkC_n, bI_B, chkB_0, chkB_1, bI_t, bI_f, clamp_n, nI_add, subn, remn2, nat_rem, divn, pk_mul, ifle_t, ifle_f, iflt_t, iflt_f, ifeq_t, ifeq_f, ifm_f, ifm_t, if_true, if_false, oI]
theorem c_when {tT gN mM : GS} {T S : NN} (hB : BV tT gN mM T S) (gA : GS) (fA : Nat → Int32) {a b w : Nat} (ha : a < T 0 1) (hb : b < T 0 1) (hw : w < 100) (hp : MX4_refusePair tT (nI a) (nI b) (nI w) = some (nI 0)) : ∃ gA' fA', MX4_when tT gN gA fA (nI a) (nI b) (nI w) = some (oI (fst1 (fun t => mts T (nights T (T 0 4) S t 1) a b w) 400), gA', fA') := by
  obtain ⟨hT, hI, hR, hS, hNb, hM, hN⟩ := hB
  obtain ⟨g0, hc, hcR⟩ := p_copyS (gS := gA) hI hR
  obtain ⟨g', f', e⟩ := p_firstMeeting hT hI hcR hS (by decide) hNb ha hb hw (last := 399) (by decide) fA
  rw [mk_0] at e
  unfold MX4_when
  simp (disch := omega) only [nm, jn0, jn1, jn2, jn3, jn4, jn5, bnd1_s, bnd2_s, bnd3_s, bnd4_s, lit_n, neg1, chkI_n, chkZ_n, chkC_n, bI_B, chkB_0, chkB_1, bI_t, bI_f, clamp_n, nI_add, subn, remn2, nat_rem, divn, pk_mul, ifle_t, ifle_f, iflt_t, iflt_f, ifeq_t, ifeq_f, ifm_f, ifm_t, if_true, if_false, hp, hc, e]
  exact ⟨_, _, rfl⟩
theorem r_when {tT gN mM : GS} {T S : NN} (hB : BV tT gN mM T S) {a b w : Nat} (ha : a < T 0 1) (hb : b < T 0 1) (hw : w < 100) (h1 : MX5_whyNot mM (nI a) (nI b) (nI 1) = some (nI 0)) (h2 : MX5_in (nI w) (nI 0) (nI 1) = some (nI 1)) : ∃ m', MX5_when mM (nI a) (nI b) (nI w) = some (oI (fst1 (fun t => mts T (nights T (T 0 4) S t 1) a b w) 400), m') ∧ fFs mM m' := by
  obtain ⟨hT, hI, hR, hS, hNb, hM, hN⟩ := hB
  have i3 := hI.1.2.2.2.2.2.1
  obtain ⟨m1, a1, a2, a3, a4⟩ := r_putAside mM
  unfold MX5_when
  simp (disch := omega) only [nm, jn0, jn1, jn2, jn3, jn4, jn5, bnd1_s, bnd2_s, bnd3_s, bnd4_s, lit_n, neg1, chkI_n, chkZ_n, chkC_n, bI_B, chkB_0, chkB_1, bI_t, bI_f, clamp_n, nI_add, subn, remn2, nat_rem, divn, pk_mul, ifle_t, ifle_f, iflt_t, iflt_f, ifeq_t, ifeq_f, ifm_f, ifm_t, if_true, if_false, h1, h2, a1]
  refine lq3_rel (fun i x y (g : GS) => x = oI (fst1 (fun t => mts T (nights T (T 0 4) S t 1) a b w) i) ∧ y = nI i ∧ gone mM g T S (T 0 4) i) 400 (fun r => ∃ m', r = some (oI (fst1 (fun t => mts T (nights T (T 0 4) S t 1) a b w) 400), m') ∧ fFs mM m') ?_ _ _ _ ⟨rfl, rfl, gone_0 hI hM hN a2 a3 a4⟩ (FU_lt (by omega))
  rintro i x y g hi ⟨rfl, rfl, hg⟩
  obtain ⟨m', p1, p2⟩ := r_putBack hg.1
  by_cases c2 : i < 400
  · cases e : fst1 (fun t => mts T (nights T (T 0 4) S t 1) a b w) i with
    | some v =>
      have hv := fst1_lt e
      have e2 := fst1_mono (m := 400) e (by omega)
      refine Or.inr ⟨_, ⟨m', rfl, p2⟩, fun rec => ?_⟩
      unfold BX5_when_32
      rw [e2]
      simp (disch := omega) only [nm, jn0, jn1, jn2, jn3, jn4, jn5, bnd1_s, bnd2_s, bnd3_s, bnd4_s, lit_n, neg1, chkI_n, chkZ_n, chkC_n, bI_B, chkB_0, chkB_1, bI_t, bI_f, clamp_n, nI_add, subn, remn2, nat_rem, divn, pk_mul, ifle_t, ifle_f, iflt_t, iflt_f, ifeq_t, ifeq_f, ifm_f, ifm_t, if_true, if_false, p1, oI]
    | none =>
      have hm := r_doTouch hg.2.1 hI hg.2.2.1.1 (nights_IS hI hS).1 ha hb hw
      have hs := fst1_s0 e
      obtain ⟨g', e1, e2⟩ := gone_s hI hS i3 (by omega) hg
      cases k : mts T (nights T (T 0 4) S i 1) a b w with
      | true =>
        rw [k] at hm hs
        refine Or.inl ⟨c2, nI i, nI (i + 1), g', ⟨by rw [hs]; rfl, rfl, e2⟩, fun rec => ?_⟩
        unfold BX5_when_32
        simp (disch := omega) only [nm, jn0, jn1, jn2, jn3, jn4, jn5, bnd1_s, bnd2_s, bnd3_s, bnd4_s, lit_n, neg1, chkI_n, chkZ_n, chkC_n, bI_B, chkB_0, chkB_1, bI_t, bI_f, clamp_n, nI_add, subn, remn2, nat_rem, divn, pk_mul, ifle_t, ifle_f, iflt_t, iflt_f, ifeq_t, ifeq_f, ifm_f, ifm_t, if_true, if_false, hm, e1, oI]
      | false =>
        rw [k] at hm hs
        refine Or.inl ⟨c2, mI, nI (i + 1), g', ⟨by rw [hs]; rfl, rfl, e2⟩, fun rec => ?_⟩
        unfold BX5_when_32
        simp (disch := omega) only [nm, jn0, jn1, jn2, jn3, jn4, jn5, bnd1_s, bnd2_s, bnd3_s, bnd4_s, lit_n, neg1, chkI_n, chkZ_n, chkC_n, bI_B, chkB_0, chkB_1, bI_t, bI_f, clamp_n, nI_add, subn, remn2, nat_rem, divn, pk_mul, ifle_t, ifle_f, iflt_t, iflt_f, ifeq_t, ifeq_f, ifm_f, ifm_t, if_true, if_false, hm, e1, oI]
  · have : i = 400 := by omega
    subst this
    refine Or.inr ⟨_, ⟨m', rfl, p2⟩, fun rec => ?_⟩
    unfold BX5_when_32
    simp (disch := omega) only [nm, jn0, jn1, jn2, jn3, jn4, jn5, bnd1_s, bnd2_s, bnd3_s, bnd4_s, lit_n, neg1, chkI_n, chkZ_n, chkC_n, bI_B, chkB_0, chkB_1, bI_t, bI_f, clamp_n, nI_add, subn, remn2, nat_rem, divn, pk_mul, ifle_t, ifle_f, iflt_t, iflt_f, ifeq_t, ifeq_f, ifm_f, ifm_t, if_true, if_false, p1]
theorem f_when {tT gN mM : GS} {T S : NN} (hB : BV tT gN mM T S) (gA : GS) (fA : Nat → Int32) (i1 i2 i3 : Int32) : ∃ r gA' fA' m', MX4_when tT gN gA fA i1 i2 i3 = some (r, gA', fA') ∧ MX5_when mM i1 i2 i3 = some (r, m') ∧ fFs mM m' := by
  have hB' := hB
  obtain ⟨hT, hI, hR, hS, hNb, hM, hN⟩ := hB'
  rcases pair_c hT hI hM i1 i2 i3 with ⟨c, h1, h2, h3⟩ | ⟨a, b, w, ha, hb, hne, hw, rfl, rfl, rfl, e1, e2, e3, e4⟩
  · obtain ⟨v, hv⟩ := in_b i3 (nI 1) 0 (by decide)
    have := h3 v (fun z => by rw [hv, z]; rfl)
    unfold MX4_when MX5_when
    simp (disch := omega) only [nm, jn0, jn1, jn2, jn3, jn4, jn5, bnd1_s, bnd2_s, bnd3_s, bnd4_s, lit_n, neg1, chkI_n, chkZ_n, chkC_n, bI_B, chkB_0, chkB_1, bI_t, bI_f, clamp_n, nI_add, subn, remn2, nat_rem, divn, pk_mul, ifle_t, ifle_f, iflt_t, iflt_f, ifeq_t, ifeq_f, ifm_f, ifm_t, if_true, if_false, h2, hv, this, if_neg h1]
    exact ⟨_, _, _, _, rfl, rfl, fFs.refl⟩
  · obtain ⟨gA', fA', k1⟩ := c_when hB gA fA ha hb (w := w) (by omega) e1
    obtain ⟨m', k2, k3⟩ := r_when hB ha hb (w := w) (by omega) e2 e4
    exact ⟨_, gA', fA', m', k1, k2, k3⟩
def cnt (p : Nat → Bool) : Nat → Nat
  | 0 => 0
  | n + 1 => cnt p n + (bif p n then 1 else 0)
theorem cnt_le {p : Nat → Bool} : ∀ {n : Nat}, cnt p n ≤ n := by
  intro n
  induction n with
  | zero => exact Nat.le_refl _
  | succ n ih =>
    unfold cnt
    cases p n
    · simp only [cond_false]; omega
    · simp only [cond_true]; omega
/-- a number of days, or refused -/
theorem days_c (i : Int32) : (MX4_areDays i = some (nI 0) ∧ MX5_areDays i = some (nI 0)) ∨ ∃ t, 1 ≤ t ∧ t ≤ 99 ∧ i = nI t ∧ MX4_areDays i = some (nI 1) ∧ MX5_areDays i = some (nI 1) := by
  unfold MX4_areDays MX5_areDays
  rcases arg i with k | ⟨t, ht, rfl⟩
  · left
    have e := r_inN (i := i) (hi := nI 99) (lo := 1) k (by decide)
    simp (disch := omega) only [nm, jn0, jn1, jn2, jn3, jn4, jn5, bnd1_s, bnd2_s, bnd3_s, bnd4_s, lit_n, neg1, chkI_n, chkZ_n, chkC_n, bI_B, chkB_0, chkB_1, bI_t, bI_f, clamp_n, nI_add, subn, remn2, nat_rem, divn, pk_mul, ifle_t, ifle_f, iflt_t, iflt_f, ifeq_t, ifeq_f, ifm_f, ifm_t, if_true, if_false, e, ifneg k]
    exact ⟨trivial, trivial⟩
  · have e := r_in (k := t) (lo := 1) (hi := 99) ht (by decide) (by decide)
    by_cases c : 1 ≤ t ∧ t ≤ 99
    · right
      rw [decide_eq_true c] at e
      refine ⟨t, c.1, c.2, rfl, ?_⟩
      simp (disch := omega) only [nm, jn0, jn1, jn2, jn3, jn4, jn5, bnd1_s, bnd2_s, bnd3_s, bnd4_s, lit_n, neg1, chkI_n, chkZ_n, chkC_n, bI_B, chkB_0, chkB_1, bI_t, bI_f, clamp_n, nI_add, subn, remn2, nat_rem, divn, pk_mul, ifle_t, ifle_f, iflt_t, iflt_f, ifeq_t, ifeq_f, ifm_f, ifm_t, if_true, if_false, e]
      exact ⟨trivial, trivial⟩
    · left
      rw [decide_eq_false c] at e
      by_cases d : t < 1
      · simp (disch := omega) only [nm, jn0, jn1, jn2, jn3, jn4, jn5, bnd1_s, bnd2_s, bnd3_s, bnd4_s, lit_n, neg1, chkI_n, chkZ_n, chkC_n, bI_B, chkB_0, chkB_1, bI_t, bI_f, clamp_n, nI_add, subn, remn2, nat_rem, divn, pk_mul, ifle_t, ifle_f, iflt_t, iflt_f, ifeq_t, ifeq_f, ifm_f, ifm_t, if_true, if_false, e]
        exact ⟨trivial, trivial⟩
      · simp (disch := omega) only [nm, jn0, jn1, jn2, jn3, jn4, jn5, bnd1_s, bnd2_s, bnd3_s, bnd4_s, lit_n, neg1, chkI_n, chkZ_n, chkC_n, bI_B, chkB_0, chkB_1, bI_t, bI_f, clamp_n, nI_add, subn, remn2, nat_rem, divn, pk_mul, ifle_t, ifle_f, iflt_t, iflt_f, ifeq_t, ifeq_f, ifm_f, ifm_t, if_true, if_false, e]
        exact ⟨trivial, trivial⟩
theorem c_often {tT gN mM : GS} {T S : NN} (hB : BV tT gN mM T S) (gA : GS) (fA : Nat → Int32) {a b w t : Nat} (ha : a < T 0 1) (hb : b < T 0 1) (hw : w < 100) (ht : t ≤ 99) (hp : MX4_refusePair tT (nI a) (nI b) (nI w) = some (nI 0)) (hd : MX4_areDays (nI t) = some (nI 1)) : ∃ gA' fA', MX4_often tT gN gA fA (nI a) (nI b) (nI w) (nI t) = some (nI (cnt (fun t => mts T (nights T (T 0 4) S t 1) a b w) t), gA', fA') := by
  obtain ⟨hT, hI, hR, hS, hNb, hM, hN⟩ := hB
  have i3 := hI.1.2.2.2.2.2.1
  have t4 := hT.1.2.2.2.2.1
  obtain ⟨g0, hc, hcR⟩ := p_copyS (gS := gA) hI hR
  unfold MX4_often
  simp (disch := omega) only [nm, jn0, jn1, jn2, jn3, jn4, jn5, bnd1_s, bnd2_s, bnd3_s, bnd4_s, lit_n, neg1, chkI_n, chkZ_n, chkC_n, bI_B, chkB_0, chkB_1, bI_t, bI_f, clamp_n, nI_add, subn, remn2, nat_rem, divn, pk_mul, ifle_t, ifle_f, iflt_t, iflt_f, ifeq_t, ifeq_f, ifm_f, ifm_t, if_true, if_false, hp, hd, hc]
  refine lq4_rel (fun i x y (g : GS) (f : Nat → Int32) => x = nI (cnt (fun t => mts T (nights T (T 0 4) S t 1) a b w) i) ∧ y = nI i ∧ RS g T (nights T (T 0 4) S i) 0) t (fun r => ∃ gA' fA', r = some (nI (cnt (fun t => mts T (nights T (T 0 4) S t 1) a b w) t), gA', fA')) ?_ _ _ _ _ ⟨rfl, rfl, hcR⟩ (FU_lt (by omega))
  rintro i x y g f hi ⟨rfl, rfl, hg⟩
  have hl := cnt_le (p := fun t => mts T (nights T (T 0 4) S t 1) a b w) (n := i)
  by_cases c2 : i < t
  · have hm := p_meets hT hI hg.1 (nights_IS hI hS).1 ha hb hw
    obtain ⟨g', f', e1, e2⟩ := p_n0 hT hI hg (nights_IS hI hS) (by rw [nights_N]; omega) i3 f
    refine Or.inl ⟨c2, nI (cnt (fun t => mts T (nights T (T 0 4) S t 1) a b w) (i + 1)), nI (i + 1), g', f', ⟨rfl, rfl, e2⟩, fun rec => ?_⟩
    unfold BX4_often_45
    show _ = rec (nI (cnt (fun t => mts T (nights T (T 0 4) S t 1) a b w) i + (bif mts T (nights T (T 0 4) S i 1) a b w then 1 else 0))) _ _ _
    cases k : mts T (nights T (T 0 4) S i 1) a b w with
    | true =>
      rw [k] at hm
      simp (disch := omega) only [nm, jn0, jn1, jn2, jn3, jn4, jn5, bnd1_s, bnd2_s, bnd3_s, bnd4_s, lit_n, neg1, chkI_n, chkZ_n, chkC_n, bI_B, chkB_0, chkB_1, bI_t, bI_f, clamp_n, nI_add, subn, remn2, nat_rem, divn, pk_mul, ifle_t, ifle_f, iflt_t, iflt_f, ifeq_t, ifeq_f, ifm_f, ifm_t, if_true, if_false, hm, t4, e1, cond_true]
    | false =>
      rw [k] at hm
      simp (disch := omega) only [nm, jn0, jn1, jn2, jn3, jn4, jn5, bnd1_s, bnd2_s, bnd3_s, bnd4_s, lit_n, neg1, chkI_n, chkZ_n, chkC_n, bI_B, chkB_0, chkB_1, bI_t, bI_f, clamp_n, nI_add, subn, remn2, nat_rem, divn, pk_mul, ifle_t, ifle_f, iflt_t, iflt_f, ifeq_t, ifeq_f, ifm_f, ifm_t, if_true, if_false, hm, t4, e1, cond_false, Nat.add_zero]
  · have : i = t := by omega
    subst this
    refine Or.inr ⟨_, ⟨g, f, rfl⟩, fun rec => ?_⟩
    unfold BX4_often_45
    simp (disch := omega) only [nm, jn0, jn1, jn2, jn3, jn4, jn5, bnd1_s, bnd2_s, bnd3_s, bnd4_s, lit_n, neg1, chkI_n, chkZ_n, chkC_n, bI_B, chkB_0, chkB_1, bI_t, bI_f, clamp_n, nI_add, subn, remn2, nat_rem, divn, pk_mul, ifle_t, ifle_f, iflt_t, iflt_f, ifeq_t, ifeq_f, ifm_f, ifm_t, if_true, if_false]
theorem r_often {tT gN mM : GS} {T S : NN} (hB : BV tT gN mM T S) {a b w t : Nat} (ha : a < T 0 1) (hb : b < T 0 1) (hw : w < 100) (ht : t ≤ 99) (h1 : MX5_whyNot mM (nI a) (nI b) (nI 1) = some (nI 0)) (h2 : MX5_in (nI w) (nI 0) (nI 1) = some (nI 1)) (hd : MX5_areDays (nI t) = some (nI 1)) : ∃ m', MX5_often mM (nI a) (nI b) (nI w) (nI t) = some (nI (cnt (fun t => mts T (nights T (T 0 4) S t 1) a b w) t), m') ∧ fFs mM m' := by
  obtain ⟨hT, hI, hR, hS, hNb, hM, hN⟩ := hB
  have i3 := hI.1.2.2.2.2.2.1
  obtain ⟨m1, a1, a2, a3, a4⟩ := r_putAside mM
  unfold MX5_often
  simp (disch := omega) only [nm, jn0, jn1, jn2, jn3, jn4, jn5, bnd1_s, bnd2_s, bnd3_s, bnd4_s, lit_n, neg1, chkI_n, chkZ_n, chkC_n, bI_B, chkB_0, chkB_1, bI_t, bI_f, clamp_n, nI_add, subn, remn2, nat_rem, divn, pk_mul, ifle_t, ifle_f, iflt_t, iflt_f, ifeq_t, ifeq_f, ifm_f, ifm_t, if_true, if_false, h1, h2, hd, a1]
  refine lq3_rel (fun i x y (g : GS) => x = nI (cnt (fun t => mts T (nights T (T 0 4) S t 1) a b w) i) ∧ y = nI i ∧ gone mM g T S (T 0 4) i) t (fun r => ∃ m', r = some (nI (cnt (fun t => mts T (nights T (T 0 4) S t 1) a b w) t), m') ∧ fFs mM m') ?_ _ _ _ ⟨rfl, rfl, gone_0 hI hM hN a2 a3 a4⟩ (FU_lt (by omega))
  rintro i x y g hi ⟨rfl, rfl, hg⟩
  have hl := cnt_le (p := fun t => mts T (nights T (T 0 4) S t 1) a b w) (n := i)
  by_cases c2 : i < t
  · have hm := r_doTouch hg.2.1 hI hg.2.2.1.1 (nights_IS hI hS).1 ha hb hw
    obtain ⟨g', e1, e2⟩ := gone_s hI hS i3 (by omega) hg
    refine Or.inl ⟨c2, nI (cnt (fun t => mts T (nights T (T 0 4) S t 1) a b w) (i + 1)), nI (i + 1), g', ⟨rfl, rfl, e2⟩, fun rec => ?_⟩
    unfold BX5_often_48
    show _ = rec (nI (cnt (fun t => mts T (nights T (T 0 4) S t 1) a b w) i + (bif mts T (nights T (T 0 4) S i 1) a b w then 1 else 0))) _ _
    cases k : mts T (nights T (T 0 4) S i 1) a b w with
    | true =>
      rw [k] at hm
      simp (disch := omega) only [nm, jn0, jn1, jn2, jn3, jn4, jn5, bnd1_s, bnd2_s, bnd3_s, bnd4_s, lit_n, neg1, chkI_n, chkZ_n, chkC_n, bI_B, chkB_0, chkB_1, bI_t, bI_f, clamp_n, nI_add, subn, remn2, nat_rem, divn, pk_mul, ifle_t, ifle_f, iflt_t, iflt_f, ifeq_t, ifeq_f, ifm_f, ifm_t, if_true, if_false, hm, e1, cond_true]
    | false =>
      rw [k] at hm
      simp (disch := omega) only [nm, jn0, jn1, jn2, jn3, jn4, jn5, bnd1_s, bnd2_s, bnd3_s, bnd4_s, lit_n, neg1, chkI_n, chkZ_n, chkC_n, bI_B, chkB_0, chkB_1, bI_t, bI_f, clamp_n, nI_add, subn, remn2, nat_rem, divn, pk_mul, ifle_t, ifle_f, iflt_t, iflt_f, ifeq_t, ifeq_f, ifm_f, ifm_t, if_true, if_false, hm, e1, cond_false, Nat.add_zero]
  · have : i = t := by omega
    subst this
    obtain ⟨m', p1, p2⟩ := r_putBack hg.1
    refine Or.inr ⟨_, ⟨m', rfl, p2⟩, fun rec => ?_⟩
    unfold BX5_often_48
    simp (disch := omega) only [nm, jn0, jn1, jn2, jn3, jn4, jn5, bnd1_s, bnd2_s, bnd3_s, bnd4_s, lit_n, neg1, chkI_n, chkZ_n, chkC_n, bI_B, chkB_0, chkB_1, bI_t, bI_f, clamp_n, nI_add, subn, remn2, nat_rem, divn, pk_mul, ifle_t, ifle_f, iflt_t, iflt_f, ifeq_t, ifeq_f, ifm_f, ifm_t, if_true, if_false, p1]
theorem f_often {tT gN mM : GS} {T S : NN} (hB : BV tT gN mM T S) (gA : GS) (fA : Nat → Int32) (i1 i2 i3 i4 : Int32) : ∃ r gA' fA' m', MX4_often tT gN gA fA i1 i2 i3 i4 = some (r, gA', fA') ∧ MX5_often mM i1 i2 i3 i4 = some (r, m') ∧ fFs mM m' := by
  have hB' := hB
  obtain ⟨hT, hI, hR, hS, hNb, hM, hN⟩ := hB'
  rcases pair_c hT hI hM i1 i2 i3 with ⟨c, h1, h2, h3⟩ | ⟨a, b, w, ha, hb, hne, hw, rfl, rfl, rfl, e1, e2, e3, e4⟩
  · obtain ⟨v, hv⟩ := in_b i3 (nI 1) 0 (by decide)
    have w0 := h3 false (fun z => by cases z)
    unfold MX4_often MX5_often
    cases v with
    | false =>
      simp (disch := omega) only [nm, jn0, jn1, jn2, jn3, jn4, jn5, bnd1_s, bnd2_s, bnd3_s, bnd4_s, lit_n, neg1, chkI_n, chkZ_n, chkC_n, bI_B, chkB_0, chkB_1, bI_t, bI_f, clamp_n, nI_add, subn, remn2, nat_rem, divn, pk_mul, ifle_t, ifle_f, iflt_t, iflt_f, ifeq_t, ifeq_f, ifm_f, ifm_t, if_true, if_false] at w0 hv
      simp (disch := omega) only [nm, jn0, jn1, jn2, jn3, jn4, jn5, bnd1_s, bnd2_s, bnd3_s, bnd4_s, lit_n, neg1, chkI_n, chkZ_n, chkC_n, bI_B, chkB_0, chkB_1, bI_t, bI_f, clamp_n, nI_add, subn, remn2, nat_rem, divn, pk_mul, ifle_t, ifle_f, iflt_t, iflt_f, ifeq_t, ifeq_f, ifm_f, ifm_t, if_true, if_false, h2, hv, w0, if_neg h1]
      exact ⟨_, _, _, _, rfl, rfl, fFs.refl⟩
    | true =>
      have w1 := h3 true (fun _ => by rw [hv]; rfl)
      simp (disch := omega) only [nm, jn0, jn1, jn2, jn3, jn4, jn5, bnd1_s, bnd2_s, bnd3_s, bnd4_s, lit_n, neg1, chkI_n, chkZ_n, chkC_n, bI_B, chkB_0, chkB_1, bI_t, bI_f, clamp_n, nI_add, subn, remn2, nat_rem, divn, pk_mul, ifle_t, ifle_f, iflt_t, iflt_f, ifeq_t, ifeq_f, ifm_f, ifm_t, if_true, if_false] at w0 w1 hv
      rcases days_c i4 with ⟨d1, d2⟩ | ⟨t, ht1, ht2, rfl, d1, d2⟩
      · simp (disch := omega) only [nm, jn0, jn1, jn2, jn3, jn4, jn5, bnd1_s, bnd2_s, bnd3_s, bnd4_s, lit_n, neg1, chkI_n, chkZ_n, chkC_n, bI_B, chkB_0, chkB_1, bI_t, bI_f, clamp_n, nI_add, subn, remn2, nat_rem, divn, pk_mul, ifle_t, ifle_f, iflt_t, iflt_f, ifeq_t, ifeq_f, ifm_f, ifm_t, if_true, if_false, h2, hv, w0, d2, if_neg h1]
        exact ⟨_, _, _, _, rfl, rfl, fFs.refl⟩
      · simp (disch := omega) only [nm, jn0, jn1, jn2, jn3, jn4, jn5, bnd1_s, bnd2_s, bnd3_s, bnd4_s, lit_n, neg1, chkI_n, chkZ_n, chkC_n, bI_B, chkB_0, chkB_1, bI_t, bI_f, clamp_n, nI_add, subn, remn2, nat_rem, divn, pk_mul, ifle_t, ifle_f, iflt_t, iflt_f, ifeq_t, ifeq_f, ifm_f, ifm_t, if_true, if_false, h2, hv, w1, d2, if_neg h1]
        exact ⟨_, _, _, _, rfl, rfl, fFs.refl⟩
  · rcases days_c i4 with ⟨d1, d2⟩ | ⟨t, ht1, ht2, rfl, d1, d2⟩
    · unfold MX4_often MX5_often
      simp (disch := omega) only [nm, jn0, jn1, jn2, jn3, jn4, jn5, bnd1_s, bnd2_s, bnd3_s, bnd4_s, lit_n, neg1, chkI_n, chkZ_n, chkC_n, bI_B, chkB_0, chkB_1, bI_t, bI_f, clamp_n, nI_add, subn, remn2, nat_rem, divn, pk_mul, ifle_t, ifle_f, iflt_t, iflt_f, ifeq_t, ifeq_f, ifm_f, ifm_t, if_true, if_false, e1, e2, e3, e4, d1, d2, if_neg n23.2]
      exact ⟨_, _, _, _, rfl, rfl, fFs.refl⟩
    · obtain ⟨gA', fA', k1⟩ := c_often hB gA fA ha hb (w := w) (by omega) ht2 e1 d1
      obtain ⟨m', k2, k3⟩ := r_often hB ha hb (w := w) (by omega) ht2 e2 e4 d2
      exact ⟨_, gA', fA', m', k1, k2, k3⟩
