/-! brings, feuding -/
def cu (T : NN) (P : Nat → Nat) (h : Nat) : Nat := if T 2 h = 3 then T 1 (P h) + T 1 (nx (T 0 0) (P h)) else T 1 (P h)
def sq (T : NN) (P : Nat → Nat) (h : Nat) : Nat → Nat
  | 0 => 0
  | q + 1 => sq T P h q + (bif sOn T P h q then T 1 q else 0)
def sum1 (f : Nat → Nat) : Nat → Nat
  | 0 => 0
  | n + 1 => sum1 f n + f n
theorem sum1_pt {a v : Nat} : ∀ {n : Nat}, sum1 (fun q => if q = a then v else 0) n = if a < n then v else 0 := by
  intro n
  induction n with
  | zero => simp [sum1]
  | succ n ih =>
    unfold sum1
    rw [ih]
    by_cases c : n = a
    · subst c; simp
    · have : (a < n + 1) = (a < n) := by apply propext; omega
      simp [c, this]
theorem sum1_add {f g : Nat → Nat} : ∀ {n : Nat}, sum1 (fun q => f q + g q) n = sum1 f n + sum1 g n := by
  intro n
  induction n with
  | zero => rfl
  | succ n ih => unfold sum1; rw [ih]; omega
theorem nx_ne {p q : Nat} (hp : 3 ≤ p) (hq : q < p) : nx p q ≠ q := by unfold nx; split <;> omega
theorem sq_cu {T : NN} {P : Nat → Nat} {h : Nat} (hI : IT T) (hl : P h < T 0 0) : sq T P h (T 0 0) = cu T P h := by
  have i0 := hI.1.1
  have hn := nx_ne i0 hl
  have hnl : nx (T 0 0) (P h) < T 0 0 := nx_lt (by omega)
  have e : ∀ n, sq T P h n = sum1 (fun q => (if q = P h then T 1 (P h) else 0) + (if q = nx (T 0 0) (P h) then (if T 2 h = 3 then T 1 (nx (T 0 0) (P h)) else 0) else 0)) n := by
    intro n
    induction n with
    | zero => rfl
    | succ n ih =>
      unfold sq sum1
      rw [ih]
      congr 1
      unfold sOn
      by_cases c : n = P h
      · have c' : ¬ n = nx (T 0 0) (P h) := fun z => hn (z.symm.trans c)
        subst c
        simp [c', fun z : nx (T 0 0) (P h) = P h => hn z]
      · by_cases d : n = nx (T 0 0) (P h)
        · have d1 : (P h == n) = false := by simpa using fun z => c z.symm
          have d2 : (nx (T 0 0) (P h) == n) = true := by simpa using d.symm
          rw [d1, d2, if_neg c, if_pos d]
          by_cases k : T 2 h = 3
          · simp [k, d]
          · have k' : (T 2 h == 3) = false := by simpa using k
            simp [k, k']
        · have d1 : (P h == n) = false := by simpa using fun z => c z.symm
          have d2 : (nx (T 0 0) (P h) == n) = false := by simpa using fun z => d z.symm
          rw [d1, d2, if_neg c, if_neg d]
          simp
  rw [e, sum1_add, sum1_pt, sum1_pt, if_pos hl, if_pos hnl]
  unfold cu
  split <;> omega
theorem cu_le {T : NN} {P : Nat → Nat} {h : Nat} (hI : IT T) (hl : P h < T 0 0) : cu T P h ≤ 18 := by
  have i1 := hI.1.2.1
  have c1 := hI.2.1 (P h) (by omega)
  have hnl : nx (T 0 0) (P h) < T 0 0 := nx_lt (by omega)
  have c2 := hI.2.1 (nx (T 0 0) (P h)) (by omega)
  unfold cu
  split <;> omega
theorem p_cropUnder {gS tT : GS} {T : NN} (hT : RT tT T) (hI : IT T) {P : Nat → Nat} {h : Nat} (hP : gS 1 h = nI (P h)) (hl : P h < T 0 0) (hh : h < T 0 1) : MX1_cropUnder gS tT (nI h) = some (nI (cu T P h)) := by
  have i2 := hI.1.2.2.1
  have i1 := hI.1.2.1
  have hk := hT.2.2.1 h (by omega)
  have hkk := hI.2.2.1 h (by omega)
  have hnl : nx (T 0 0) (P h) < T 0 0 := nx_lt (by omega)
  have c1 := hT.2.1 (P h) (by omega)
  have c2 := hT.2.1 (nx (T 0 0) (P h)) (by omega)
  have hn := p_next hT hI (q := P h) (by omega)
  unfold MX1_cropUnder cu
  by_cases k : T 2 h = 3
  · rw [if_pos k]
    simp (disch := omega) only [nm, jn0, jn1, jn2, jn3, jn4, jn5, bnd1_s, bnd2_s, bnd3_s, bnd4_s, lit_n, neg1, chkI_n, chkZ_n, chkC_n, bI_B, chkB_0, chkB_1, bI_t, bI_f, clamp_n, nI_add, subn, remn2, nat_rem, divn, pk_mul, ifle_t, ifle_f, iflt_t, iflt_f, ifeq_t, ifeq_f, ifm_f, ifm_t, if_true, if_false, hP, hk, k, c1, c2, hn]
  · rw [if_neg k]
    simp (disch := omega) only [nm, jn0, jn1, jn2, jn3, jn4, jn5, bnd1_s, bnd2_s, bnd3_s, bnd4_s, lit_n, neg1, chkI_n, chkZ_n, chkC_n, bI_B, chkB_0, chkB_1, bI_t, bI_f, clamp_n, nI_add, subn, remn2, nat_rem, divn, pk_mul, ifle_t, ifle_f, iflt_t, iflt_f, ifeq_t, ifeq_f, ifm_f, ifm_t, if_true, if_false, hP, hk, c1]
def sumC (T : NN) (law : Nat) (S : NN) (h : Nat) (n : Nat) : Nat := sum1 (fun t => cu T (nights T law S t 1) h) n
theorem sumC_s {T S : NN} {law h n : Nat} : sumC T law S h (n + 1) = sumC T law S h n + cu T (nights T law S n 1) h := rfl
theorem sumC_le {T S : NN} {law h : Nat} (hI : IT T) (hS : IS T S) (hh : h < T 0 1) : ∀ {n : Nat}, sumC T law S h n ≤ 18 * n := by
  intro n
  induction n with
  | zero => exact Nat.le_refl _
  | succ n ih =>
    have := cu_le hI ((nights_IS (law := law) (t := n) hI hS).1 h hh)
    rw [sumC_s]
    omega
theorem c_brings {tT gN mM : GS} {T S : NN} (hB : BV tT gN mM T S) (gA : GS) (fA : Nat → Int32) {h t : Nat} (hh : h < T 0 1) (ht : t ≤ 99) (hd : MX4_areDays (nI t) = some (nI 1)) : ∃ gA' fA', MX4_brings tT gN gA fA (nI h) (nI t) = some (nI (sumC T (T 0 4) S h t), gA', fA') := by
  obtain ⟨hT, hI, hR, hS, hNb, hM, hN⟩ := hB
  have i3 := hI.1.2.2.2.2.2.1
  have t4 := hT.1.2.2.2.2.1
  have h1 := isHouse_1 hT hI hh
  obtain ⟨g0, hc, hcR⟩ := p_copyS (gS := gA) hI hR
  unfold MX4_brings
  simp (disch := omega) only [nm, jn0, jn1, jn2, jn3, jn4, jn5, bnd1_s, bnd2_s, bnd3_s, bnd4_s, lit_n, neg1, chkI_n, chkZ_n, chkC_n, bI_B, chkB_0, chkB_1, bI_t, bI_f, clamp_n, nI_add, subn, remn2, nat_rem, divn, pk_mul, ifle_t, ifle_f, iflt_t, iflt_f, ifeq_t, ifeq_f, ifm_f, ifm_t, if_true, if_false, h1, hd, hc]
  refine lq4_rel (fun i x y (g : GS) (f : Nat → Int32) => x = nI (sumC T (T 0 4) S h i) ∧ y = nI i ∧ RS g T (nights T (T 0 4) S i) 0) t (fun r => ∃ gA' fA', r = some (nI (sumC T (T 0 4) S h t), gA', fA')) ?_ _ _ _ _ ⟨rfl, rfl, hcR⟩ (FU_lt (by omega))
  rintro i x y g f hi ⟨rfl, rfl, hg⟩
  by_cases c2 : i < t
  · have hm := p_cropUnder hT hI (hg.1 h hh) ((nights_IS hI hS).1 h hh) hh
    obtain ⟨g', f', e1, e2⟩ := p_n0 hT hI hg (nights_IS hI hS) (by rw [nights_N]; omega) i3 f
    refine Or.inl ⟨c2, nI (sumC T (T 0 4) S h (i + 1)), nI (i + 1), g', f', ⟨rfl, rfl, e2⟩, fun rec => ?_⟩
    unfold BX4_brings_37
    rw [sumC_s]
    simp (disch := omega) only [nm, jn0, jn1, jn2, jn3, jn4, jn5, bnd1_s, bnd2_s, bnd3_s, bnd4_s, lit_n, neg1, chkI_n, chkZ_n, chkC_n, bI_B, chkB_0, chkB_1, bI_t, bI_f, clamp_n, nI_add, subn, remn2, nat_rem, divn, pk_mul, ifle_t, ifle_f, iflt_t, iflt_f, ifeq_t, ifeq_f, ifm_f, ifm_t, if_true, if_false, hm, t4, e1]
  · have : i = t := by omega
    subst this
    refine Or.inr ⟨_, ⟨g, f, rfl⟩, fun rec => ?_⟩
    unfold BX4_brings_37
    simp (disch := omega) only [nm, jn0, jn1, jn2, jn3, jn4, jn5, bnd1_s, bnd2_s, bnd3_s, bnd4_s, lit_n, neg1, chkI_n, chkZ_n, chkC_n, bI_B, chkB_0, chkB_1, bI_t, bI_f, clamp_n, nI_add, subn, remn2, nat_rem, divn, pk_mul, ifle_t, ifle_f, iflt_t, iflt_f, ifeq_t, ifeq_f, ifm_f, ifm_t, if_true, if_false]
theorem r_brings {tT gN mM : GS} {T S : NN} (hB : BV tT gN mM T S) {h t : Nat} (hh : h < T 0 1) (ht : t ≤ 99) (hd : MX5_areDays (nI t) = some (nI 1)) : ∃ m', MX5_brings mM (nI h) (nI t) = some (nI (sumC T (T 0 4) S h t), m') ∧ fFs mM m' := by
  obtain ⟨hT, hI, hR, hS, hNb, hM, hN⟩ := hB
  have i3 := hI.1.2.2.2.2.2.1
  have i1 := hI.1.2.1
  have i0 := hI.1.1
  have h2 := isHouse_2 hM hI hh
  obtain ⟨m1, a1, a2, a3, a4⟩ := r_putAside mM
  unfold MX5_brings
  simp (disch := omega) only [nm, jn0, jn1, jn2, jn3, jn4, jn5, bnd1_s, bnd2_s, bnd3_s, bnd4_s, lit_n, neg1, chkI_n, chkZ_n, chkC_n, bI_B, chkB_0, chkB_1, bI_t, bI_f, clamp_n, nI_add, subn, remn2, nat_rem, divn, pk_mul, ifle_t, ifle_f, iflt_t, iflt_f, ifeq_t, ifeq_f, ifm_f, ifm_t, if_true, if_false, h2, hd, a1]
  refine lq3_rel (fun i x y (g : GS) => x = nI (sumC T (T 0 4) S h i) ∧ y = nI i ∧ gone mM g T S (T 0 4) i) t (fun r => ∃ m', r = some (nI (sumC T (T 0 4) S h t), m') ∧ fFs mM m') ?_ _ _ _ ⟨rfl, rfl, gone_0 hI hM hN a2 a3 a4⟩ (FU_lt (by omega))
  rintro i x y g hi ⟨rfl, rfl, hg⟩
  by_cases c2 : i < t
  · obtain ⟨g', e1, e2⟩ := gone_s hI hS i3 (by omega) hg
    have g0 := hg.2.1.1.1
    refine Or.inl ⟨c2, nI (sumC T (T 0 4) S h (i + 1)), nI (i + 1), g', ⟨rfl, rfl, e2⟩, fun rec => ?_⟩
    unfold BX5_brings_30
    have inner : ∀ (k20 : Int32 → Option (Int32 × GS)), lq2 (BX5_brings_39 g k20 (nI h)) FU (nI (sumC T (T 0 4) S h i)) (nI 0) = k20 (nI (sumC T (T 0 4) S h (i + 1))) := by
      intro k20
      refine lq2_run (fun q => nI (sumC T (T 0 4) S h i + sq T (nights T (T 0 4) S i 1) h q)) nI (T 0 0) _ ?_ ?_ FU (FU_lt (by omega))
      · intro q hq rec2
        have hs := r_standsOn hg.2.1 hI hg.2.2.1.1 (nights_IS hI hS).1 hh (q := q) (by omega)
        have hc := hg.2.1.2.1 q (by omega)
        unfold BX5_brings_39
        show _ = rec2 (nI (sumC T (T 0 4) S h i + (sq T (nights T (T 0 4) S i 1) h q + (bif sOn T (nights T (T 0 4) S i 1) h q then T 1 q else 0)))) _
        cases k : sOn T (nights T (T 0 4) S i 1) h q with
        | true =>
          rw [k] at hs
          simp (disch := omega) only [nm, jn0, jn1, jn2, jn3, jn4, jn5, bnd1_s, bnd2_s, bnd3_s, bnd4_s, lit_n, neg1, chkI_n, chkZ_n, chkC_n, bI_B, chkB_0, chkB_1, bI_t, bI_f, clamp_n, nI_add, subn, remn2, nat_rem, divn, pk_mul, ifle_t, ifle_f, iflt_t, iflt_f, ifeq_t, ifeq_f, ifm_f, ifm_t, if_true, if_false, g0, hs, hc, cond_true, Nat.add_assoc]
        | false =>
          rw [k] at hs
          simp (disch := omega) only [nm, jn0, jn1, jn2, jn3, jn4, jn5, bnd1_s, bnd2_s, bnd3_s, bnd4_s, lit_n, neg1, chkI_n, chkZ_n, chkC_n, bI_B, chkB_0, chkB_1, bI_t, bI_f, clamp_n, nI_add, subn, remn2, nat_rem, divn, pk_mul, ifle_t, ifle_f, iflt_t, iflt_f, ifeq_t, ifeq_f, ifm_f, ifm_t, if_true, if_false, g0, hs, cond_false, Nat.add_zero]
      · intro rec2
        have hsq := sq_cu (P := nights T (T 0 4) S i 1) (h := h) hI ((nights_IS hI hS).1 h hh)
        unfold BX5_brings_39
        rw [hsq, sumC_s]
        simp (disch := omega) only [nm, jn0, jn1, jn2, jn3, jn4, jn5, bnd1_s, bnd2_s, bnd3_s, bnd4_s, lit_n, neg1, chkI_n, chkZ_n, chkC_n, bI_B, chkB_0, chkB_1, bI_t, bI_f, clamp_n, nI_add, subn, remn2, nat_rem, divn, pk_mul, ifle_t, ifle_f, iflt_t, iflt_f, ifeq_t, ifeq_f, ifm_f, ifm_t, if_true, if_false, g0]
    simp (disch := omega) only [nm, jn0, jn1, jn2, jn3, jn4, jn5, bnd1_s, bnd2_s, bnd3_s, bnd4_s, lit_n, neg1, chkI_n, chkZ_n, chkC_n, bI_B, chkB_0, chkB_1, bI_t, bI_f, clamp_n, nI_add, subn, remn2, nat_rem, divn, pk_mul, ifle_t, ifle_f, iflt_t, iflt_f, ifeq_t, ifeq_f, ifm_f, ifm_t, if_true, if_false, inner, e1]
  · have : i = t := by omega
    subst this
    obtain ⟨m', p1, p2⟩ := r_putBack hg.1
    refine Or.inr ⟨_, ⟨m', rfl, p2⟩, fun rec => ?_⟩
    unfold BX5_brings_30
    simp (disch := omega) only [nm, jn0, jn1, jn2, jn3, jn4, jn5, bnd1_s, bnd2_s, bnd3_s, bnd4_s, lit_n, neg1, chkI_n, chkZ_n, chkC_n, bI_B, chkB_0, chkB_1, bI_t, bI_f, clamp_n, nI_add, subn, remn2, nat_rem, divn, pk_mul, ifle_t, ifle_f, iflt_t, iflt_f, ifeq_t, ifeq_f, ifm_f, ifm_t, if_true, if_false, p1]
theorem f_brings {tT gN mM : GS} {T S : NN} (hB : BV tT gN mM T S) (gA : GS) (fA : Nat → Int32) (i1 i2 : Int32) : ∃ r gA' fA' m', MX4_brings tT gN gA fA i1 i2 = some (r, gA', fA') ∧ MX5_brings mM i1 i2 = some (r, m') ∧ fFs mM m' := by
  have hB' := hB
  obtain ⟨hT, hI, hR, hS, hNb, hM, hN⟩ := hB'
  rcases isHouse_c hT hI hM i1 with ⟨h1, h2⟩ | ⟨h, hh, rfl, h1, h2⟩
  · unfold MX4_brings MX5_brings
    simp (disch := omega) only [nm, jn0, jn1, jn2, jn3, jn4, jn5, bnd1_s, bnd2_s, bnd3_s, bnd4_s, lit_n, neg1, chkI_n, chkZ_n, chkC_n, bI_B, chkB_0, chkB_1, bI_t, bI_f, clamp_n, nI_add, subn, remn2, nat_rem, divn, pk_mul, ifle_t, ifle_f, iflt_t, iflt_f, ifeq_t, ifeq_f, ifm_f, ifm_t, if_true, if_false, h1, h2]
    exact ⟨_, _, _, _, rfl, rfl, fFs.refl⟩
  · rcases days_c i2 with ⟨d1, d2⟩ | ⟨t, ht1, ht2, rfl, d1, d2⟩
    · unfold MX4_brings MX5_brings
      simp (disch := omega) only [nm, jn0, jn1, jn2, jn3, jn4, jn5, bnd1_s, bnd2_s, bnd3_s, bnd4_s, lit_n, neg1, chkI_n, chkZ_n, chkC_n, bI_B, chkB_0, chkB_1, bI_t, bI_f, clamp_n, nI_add, subn, remn2, nat_rem, divn, pk_mul, ifle_t, ifle_f, iflt_t, iflt_f, ifeq_t, ifeq_f, ifm_f, ifm_t, if_true, if_false, h1, h2, d1, d2]
      exact ⟨_, _, _, _, rfl, rfl, fFs.refl⟩
    · obtain ⟨gA', fA', k1⟩ := c_brings hB gA fA hh ht2 d1
      obtain ⟨m', k2, k3⟩ := r_brings hB hh ht2 d2
      exact ⟨_, gA', fA', m', k1, k2, k3⟩
def fbe (T : NN) (P : Nat → Nat) : Bool := (fst1 (fun k => bes T P (T 6 k) (T 7 k)) (T 0 3)).isSome
theorem p_hasFeud {gS tT : GS} {T S : NN} (hT : RT tT T) (hI : IT T) (hR : RS gS T S 0) (hS : IS T S) : MX1_hasFeudBeside gS tT = some (bI (fbe T (S 1))) := by
  have i3 := hI.1.2.2.2.2.1
  have t3 := hT.1.2.2.2.1
  unfold MX1_hasFeudBeside
  simp only [jn0]
  refine lq1_rel (fun i x => x = nI i ∧ fst1 (fun k => bes T (S 1) (T 6 k) (T 7 k)) i = none) (T 0 3) (fun r => r = some (bI (fbe T (S 1)))) ?_ _ ⟨rfl, rfl⟩ (FU_lt (by omega))
  rintro i x hi ⟨rfl, hn⟩
  by_cases c : i < T 0 3
  · have hf := hI.2.2.2.2.2.1 i c
    have e6 := hT.2.2.2.2.2.2.1 i (by omega)
    have e7 := hT.2.2.2.2.2.2.2 i (by omega)
    have hb := p_areBeside hT hI hR.1 hS.1 hf.1 hf.2.1
    have hs := fst1_s0 hn
    cases k : bes T (S 1) (T 6 i) (T 7 i) with
    | true =>
      rw [k] at hb hs
      have e2 := fst1_mono (m := T 0 3) (hs.trans (if_pos rfl)) (by omega)
      refine Or.inr ⟨_, rfl, fun rec => ?_⟩
      unfold BX1_hasFeudBeside_2 fbe
      rw [e2]
      simp (disch := omega) only [nm, jn0, jn1, jn2, jn3, jn4, jn5, bnd1_s, bnd2_s, bnd3_s, bnd4_s, lit_n, neg1, chkI_n, chkZ_n, chkC_n, bI_B, chkB_0, chkB_1, bI_t, bI_f, clamp_n, nI_add, subn, remn2, nat_rem, divn, pk_mul, ifle_t, ifle_f, iflt_t, iflt_f, ifeq_t, ifeq_f, ifm_f, ifm_t, if_true, if_false, t3, e6, e7, hb, Option.isSome_some]
    | false =>
      rw [k] at hb hs
      refine Or.inl ⟨c, nI (i + 1), ⟨rfl, by rw [hs]; simp⟩, fun rec => ?_⟩
      unfold BX1_hasFeudBeside_2
      simp (disch := omega) only [nm, jn0, jn1, jn2, jn3, jn4, jn5, bnd1_s, bnd2_s, bnd3_s, bnd4_s, lit_n, neg1, chkI_n, chkZ_n, chkC_n, bI_B, chkB_0, chkB_1, bI_t, bI_f, clamp_n, nI_add, subn, remn2, nat_rem, divn, pk_mul, ifle_t, ifle_f, iflt_t, iflt_f, ifeq_t, ifeq_f, ifm_f, ifm_t, if_true, if_false, t3, e6, e7, hb]
  · have : i = T 0 3 := by omega
    subst this
    refine Or.inr ⟨_, rfl, fun rec => ?_⟩
    unfold BX1_hasFeudBeside_2 fbe
    rw [hn]
    simp (disch := omega) only [nm, jn0, jn1, jn2, jn3, jn4, jn5, bnd1_s, bnd2_s, bnd3_s, bnd4_s, lit_n, neg1, chkI_n, chkZ_n, chkC_n, bI_B, chkB_0, chkB_1, bI_t, bI_f, clamp_n, nI_add, subn, remn2, nat_rem, divn, pk_mul, ifle_t, ifle_f, iflt_t, iflt_f, ifeq_t, ifeq_f, ifm_f, ifm_t, if_true, if_false, t3, Option.isSome_none]
theorem c_feuding {tT gN mM : GS} {T S : NN} (hB : BV tT gN mM T S) (gA : GS) (fA : Nat → Int32) {t : Nat} (ht : t ≤ 99) (hd : MX4_areDays (nI t) = some (nI 1)) : ∃ gA' fA', MX4_feuding tT gN gA fA (nI t) = some (nI (cnt (fun t => fbe T (nights T (T 0 4) S t 1)) t), gA', fA') := by
  obtain ⟨hT, hI, hR, hS, hNb, hM, hN⟩ := hB
  have i3 := hI.1.2.2.2.2.2.1
  have t4 := hT.1.2.2.2.2.1
  obtain ⟨g0, hc, hcR⟩ := p_copyS (gS := gA) hI hR
  unfold MX4_feuding
  simp (disch := omega) only [nm, jn0, jn1, jn2, jn3, jn4, jn5, bnd1_s, bnd2_s, bnd3_s, bnd4_s, lit_n, neg1, chkI_n, chkZ_n, chkC_n, bI_B, chkB_0, chkB_1, bI_t, bI_f, clamp_n, nI_add, subn, remn2, nat_rem, divn, pk_mul, ifle_t, ifle_f, iflt_t, iflt_f, ifeq_t, ifeq_f, ifm_f, ifm_t, if_true, if_false, hd, hc]
  refine lq4_rel (fun i x y (g : GS) (f : Nat → Int32) => x = nI (cnt (fun t => fbe T (nights T (T 0 4) S t 1)) i) ∧ y = nI i ∧ RS g T (nights T (T 0 4) S i) 0) t (fun r => ∃ gA' fA', r = some (nI (cnt (fun t => fbe T (nights T (T 0 4) S t 1)) t), gA', fA')) ?_ _ _ _ _ ⟨rfl, rfl, hcR⟩ (FU_lt (by omega))
  rintro i x y g f hi ⟨rfl, rfl, hg⟩
  have hl := cnt_le (p := fun t => fbe T (nights T (T 0 4) S t 1)) (n := i)
  by_cases c2 : i < t
  · have hm := p_hasFeud hT hI hg (nights_IS hI hS)
    obtain ⟨g', f', e1, e2⟩ := p_n0 hT hI hg (nights_IS hI hS) (by rw [nights_N]; omega) i3 f
    refine Or.inl ⟨c2, nI (cnt (fun t => fbe T (nights T (T 0 4) S t 1)) (i + 1)), nI (i + 1), g', f', ⟨rfl, rfl, e2⟩, fun rec => ?_⟩
    unfold BX4_feuding_25
    show _ = rec (nI (cnt (fun t => fbe T (nights T (T 0 4) S t 1)) i + (bif fbe T (nights T (T 0 4) S i 1) then 1 else 0))) _ _ _
    cases k : fbe T (nights T (T 0 4) S i 1) with
    | true =>
      rw [k] at hm
      simp (disch := omega) only [nm, jn0, jn1, jn2, jn3, jn4, jn5, bnd1_s, bnd2_s, bnd3_s, bnd4_s, lit_n, neg1, chkI_n, chkZ_n, chkC_n, bI_B, chkB_0, chkB_1, bI_t, bI_f, clamp_n, nI_add, subn, remn2, nat_rem, divn, pk_mul, ifle_t, ifle_f, iflt_t, iflt_f, ifeq_t, ifeq_f, ifm_f, ifm_t, if_true, if_false, hm, t4, e1, cond_true]
    | false =>
      rw [k] at hm
      simp (disch := omega) only [nm, jn0, jn1, jn2, jn3, jn4, jn5, bnd1_s, bnd2_s, bnd3_s, bnd4_s, lit_n, neg1, chkI_n, chkZ_n, chkC_n, bI_B, chkB_0, chkB_1, bI_t, bI_f, clamp_n, nI_add, subn, remn2, nat_rem, divn, pk_mul, ifle_t, ifle_f, iflt_t, iflt_f, ifeq_t, ifeq_f, ifm_f, ifm_t, if_true, if_false, hm, t4, e1, cond_false, Nat.add_zero]
  · have : i = t := by omega
    subst this
    refine Or.inr ⟨_, ⟨g, f, rfl⟩, fun rec => ?_⟩
    unfold BX4_feuding_25
    simp (disch := omega) only [nm, jn0, jn1, jn2, jn3, jn4, jn5, bnd1_s, bnd2_s, bnd3_s, bnd4_s, lit_n, neg1, chkI_n, chkZ_n, chkC_n, bI_B, chkB_0, chkB_1, bI_t, bI_f, clamp_n, nI_add, subn, remn2, nat_rem, divn, pk_mul, ifle_t, ifle_f, iflt_t, iflt_f, ifeq_t, ifeq_f, ifm_f, ifm_t, if_true, if_false]
theorem r_feuding {tT gN mM : GS} {T S : NN} (hB : BV tT gN mM T S) {t : Nat} (ht : t ≤ 99) (hd : MX5_areDays (nI t) = some (nI 1)) : ∃ m', MX5_feuding mM (nI t) = some (nI (cnt (fun t => fbe T (nights T (T 0 4) S t 1)) t), m') ∧ fFs mM m' := by
  obtain ⟨hT, hI, hR, hS, hNb, hM, hN⟩ := hB
  have i3 := hI.1.2.2.2.2.2.1
  have if3 := hI.1.2.2.2.2.1
  obtain ⟨m1, a1, a2, a3, a4⟩ := r_putAside mM
  unfold MX5_feuding
  simp (disch := omega) only [nm, jn0, jn1, jn2, jn3, jn4, jn5, bnd1_s, bnd2_s, bnd3_s, bnd4_s, lit_n, neg1, chkI_n, chkZ_n, chkC_n, bI_B, chkB_0, chkB_1, bI_t, bI_f, clamp_n, nI_add, subn, remn2, nat_rem, divn, pk_mul, ifle_t, ifle_f, iflt_t, iflt_f, ifeq_t, ifeq_f, ifm_f, ifm_t, if_true, if_false, hd, a1]
  refine lq3_rel (fun i x y (g : GS) => x = nI (cnt (fun t => fbe T (nights T (T 0 4) S t 1)) i) ∧ y = nI i ∧ gone mM g T S (T 0 4) i) t (fun r => ∃ m', r = some (nI (cnt (fun t => fbe T (nights T (T 0 4) S t 1)) t), m') ∧ fFs mM m') ?_ _ _ _ ⟨rfl, rfl, gone_0 hI hM hN a2 a3 a4⟩ (FU_lt (by omega))
  rintro i x y g hi ⟨rfl, rfl, hg⟩
  have hl := cnt_le (p := fun t => fbe T (nights T (T 0 4) S t 1)) (n := i)
  by_cases c2 : i < t
  · obtain ⟨g', e1, e2⟩ := gone_s hI hS i3 (by omega) hg
    have g7 := hg.2.1.1.2.2.2.1
    refine Or.inl ⟨c2, nI (cnt (fun t => fbe T (nights T (T 0 4) S t 1)) (i + 1)), nI (i + 1), g', ⟨rfl, rfl, e2⟩, fun rec => ?_⟩
    unfold BX5_feuding_18
    -- whether two of a feud are beside one another
    have inner : ∀ (k17 : Int32 → Option (Int32 × GS)), lq2 (BX5_feuding_29 g k17) FU (nI 0) (nI 0) = k17 (bI (fbe T (nights T (T 0 4) S i 1))) := by
      intro k17
      refine lq2_run (fun k => bI (fst1 (fun k => bes T (nights T (T 0 4) S i 1) (T 6 k) (T 7 k)) k).isSome) nI (T 0 3) _ ?_ ?_ FU (FU_lt (by omega))
      · intro k hk rec2
        have hf := hI.2.2.2.2.2.1 k hk
        have e6 := hg.2.1.2.2.2.2.2.2.1 k (by omega)
        have e7 := hg.2.1.2.2.2.2.2.2.2 k (by omega)
        have hb := r_areBeside hg.2.1 hI hg.2.2.1.1 (nights_IS hI hS).1 hf.1 hf.2.1
        unfold BX5_feuding_29
        cases e : fst1 (fun k => bes T (nights T (T 0 4) S i 1) (T 6 k) (T 7 k)) k with
        | some v =>
          have e2 := fst1_mono (m := k + 1) e (by omega)
          rw [e2]
          simp (disch := omega) only [nm, jn0, jn1, jn2, jn3, jn4, jn5, bnd1_s, bnd2_s, bnd3_s, bnd4_s, lit_n, neg1, chkI_n, chkZ_n, chkC_n, bI_B, chkB_0, chkB_1, bI_t, bI_f, clamp_n, nI_add, subn, remn2, nat_rem, divn, pk_mul, ifle_t, ifle_f, iflt_t, iflt_f, ifeq_t, ifeq_f, ifm_f, ifm_t, if_true, if_false, g7, Option.isSome_some]
        | none =>
          have hs := fst1_s0 e
          cases z : bes T (nights T (T 0 4) S i 1) (T 6 k) (T 7 k) with
          | true =>
            rw [z] at hb hs
            rw [hs]
            simp (disch := omega) only [nm, jn0, jn1, jn2, jn3, jn4, jn5, bnd1_s, bnd2_s, bnd3_s, bnd4_s, lit_n, neg1, chkI_n, chkZ_n, chkC_n, bI_B, chkB_0, chkB_1, bI_t, bI_f, clamp_n, nI_add, subn, remn2, nat_rem, divn, pk_mul, ifle_t, ifle_f, iflt_t, iflt_f, ifeq_t, ifeq_f, ifm_f, ifm_t, if_true, if_false, g7, e6, e7, hb, Option.isSome_some, Option.isSome_none]
          | false =>
            rw [z] at hb hs
            rw [hs]
            simp (disch := omega) only [nm, jn0, jn1, jn2, jn3, jn4, jn5, bnd1_s, bnd2_s, bnd3_s, bnd4_s, lit_n, neg1, chkI_n, chkZ_n, chkC_n, bI_B, chkB_0, chkB_1, bI_t, bI_f, clamp_n, nI_add, subn, remn2, nat_rem, divn, pk_mul, ifle_t, ifle_f, iflt_t, iflt_f, ifeq_t, ifeq_f, ifm_f, ifm_t, if_true, if_false, g7, e6, e7, hb, Option.isSome_none, Bool.false_eq_true]
      · intro rec2
        unfold BX5_feuding_29 fbe
        simp (disch := omega) only [nm, jn0, jn1, jn2, jn3, jn4, jn5, bnd1_s, bnd2_s, bnd3_s, bnd4_s, lit_n, neg1, chkI_n, chkZ_n, chkC_n, bI_B, chkB_0, chkB_1, bI_t, bI_f, clamp_n, nI_add, subn, remn2, nat_rem, divn, pk_mul, ifle_t, ifle_f, iflt_t, iflt_f, ifeq_t, ifeq_f, ifm_f, ifm_t, if_true, if_false, g7]
    show _ = rec (nI (cnt (fun t => fbe T (nights T (T 0 4) S t 1)) i + (bif fbe T (nights T (T 0 4) S i 1) then 1 else 0))) _ _
    cases k : fbe T (nights T (T 0 4) S i 1) with
    | true =>
      rw [k] at inner
      simp (disch := omega) only [nm, jn0, jn1, jn2, jn3, jn4, jn5, bnd1_s, bnd2_s, bnd3_s, bnd4_s, lit_n, neg1, chkI_n, chkZ_n, chkC_n, bI_B, chkB_0, chkB_1, bI_t, bI_f, clamp_n, nI_add, subn, remn2, nat_rem, divn, pk_mul, ifle_t, ifle_f, iflt_t, iflt_f, ifeq_t, ifeq_f, ifm_f, ifm_t, if_true, if_false, inner, e1, cond_true]
    | false =>
      rw [k] at inner
      simp (disch := omega) only [nm, jn0, jn1, jn2, jn3, jn4, jn5, bnd1_s, bnd2_s, bnd3_s, bnd4_s, lit_n, neg1, chkI_n, chkZ_n, chkC_n, bI_B, chkB_0, chkB_1, bI_t, bI_f, clamp_n, nI_add, subn, remn2, nat_rem, divn, pk_mul, ifle_t, ifle_f, iflt_t, iflt_f, ifeq_t, ifeq_f, ifm_f, ifm_t, if_true, if_false, inner, e1, cond_false, Nat.add_zero]
  · have : i = t := by omega
    subst this
    obtain ⟨m', p1, p2⟩ := r_putBack hg.1
    refine Or.inr ⟨_, ⟨m', rfl, p2⟩, fun rec => ?_⟩
    unfold BX5_feuding_18
    simp (disch := omega) only [nm, jn0, jn1, jn2, jn3, jn4, jn5, bnd1_s, bnd2_s, bnd3_s, bnd4_s, lit_n, neg1, chkI_n, chkZ_n, chkC_n, bI_B, chkB_0, chkB_1, bI_t, bI_f, clamp_n, nI_add, subn, remn2, nat_rem, divn, pk_mul, ifle_t, ifle_f, iflt_t, iflt_f, ifeq_t, ifeq_f, ifm_f, ifm_t, if_true, if_false, p1]
theorem f_feuding {tT gN mM : GS} {T S : NN} (hB : BV tT gN mM T S) (gA : GS) (fA : Nat → Int32) (i1 : Int32) : ∃ r gA' fA' m', MX4_feuding tT gN gA fA i1 = some (r, gA', fA') ∧ MX5_feuding mM i1 = some (r, m') ∧ fFs mM m' := by
  rcases days_c i1 with ⟨d1, d2⟩ | ⟨t, ht1, ht2, rfl, d1, d2⟩
  · unfold MX4_feuding MX5_feuding
    simp (disch := omega) only [nm, jn0, jn1, jn2, jn3, jn4, jn5, bnd1_s, bnd2_s, bnd3_s, bnd4_s, lit_n, neg1, chkI_n, chkZ_n, chkC_n, bI_B, chkB_0, chkB_1, bI_t, bI_f, clamp_n, nI_add, subn, remn2, nat_rem, divn, pk_mul, ifle_t, ifle_f, iflt_t, iflt_f, ifeq_t, ifeq_f, ifm_f, ifm_t, if_true, if_false, d1, d2]
    exact ⟨_, _, _, _, rfl, rfl, fFs.refl⟩
  · obtain ⟨gA', fA', k1⟩ := c_feuding hB gA fA ht2 d1
    obtain ⟨m', k2, k3⟩ := r_feuding hB ht2 d2
    exact ⟨_, gA', fA', m', k1, k2, k3⟩
