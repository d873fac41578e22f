/-! ===== the text: tokens ===== -/
def run (g : Nat → Bool) : Nat → Nat → Nat
  | 0, p => p
  | d + 1, p => if g p = true then run g d (p + 1) else p
def rn (g : Nat → Bool) (L p : Nat) : Nat := run g (L - p) p
theorem rn_stop {g : Nat → Bool} {L p : Nat} (h : ¬ (p < L ∧ g p = true)) : rn g L p = p := by
  unfold rn
  cases e : L - p with
  | zero => rfl
  | succ d =>
    unfold run
    rw [if_neg (fun z => h ⟨by omega, z⟩)]
theorem rn_go {g : Nat → Bool} {L p : Nat} (h : p < L) (hg : g p = true) : rn g L p = rn g L (p + 1) := by
  unfold rn
  rw [show L - p = (L - (p + 1)) + 1 by omega]
  unfold run
  rw [if_pos hg]
  cases L - (p + 1) <;> rfl
theorem rn_b {g : Nat → Bool} {L : Nat} : ∀ {d p : Nat}, p + d = L → p ≤ rn g L p ∧ rn g L p ≤ L := by
  intro d
  induction d with
  | zero =>
    intro p h
    rw [rn_stop (by omega)]
    omega
  | succ d ih =>
    intro p h
    by_cases c : g p = true
    · rw [rn_go (by omega) c]
      have := ih (p := p + 1) (by omega)
      omega
    · rw [rn_stop (fun z => c z.2)]
      omega
theorem rn_le {g : Nat → Bool} {L p : Nat} (h : p ≤ L) : p ≤ rn g L p ∧ rn g L p ≤ L := rn_b (d := L - p) (by omega)
theorem rn_all {g : Nat → Bool} {L : Nat} : ∀ {d p : Nat}, p + d = L → ∀ i, p ≤ i → i < rn g L p → g i = true := by
  intro d
  induction d with
  | zero => intro p h i h1 h2; rw [rn_stop (by omega)] at h2; omega
  | succ d ih =>
    intro p h i h1 h2
    by_cases c : g p = true
    · rw [rn_go (by omega) c] at h2
      by_cases k : i = p
      · rw [k]; exact c
      · exact ih (p := p + 1) (by omega) i (by omega) h2
    · rw [rn_stop (fun z => c z.2)] at h2
      omega
theorem rn_congr {g g' : Nat → Bool} {L : Nat} : ∀ {d p : Nat}, p + d = L → (∀ i, p ≤ i → i < L → g i = g' i) → rn g L p = rn g' L p := by
  intro d
  induction d with
  | zero => intro p h _; rw [rn_stop (by omega), rn_stop (by omega)]
  | succ d ih =>
    intro p h e
    have e0 := e p (Nat.le_refl _) (by omega)
    by_cases c : g p = true
    · rw [rn_go (by omega) c, rn_go (g := g') (by omega) (e0.symm.trans c)]
      exact ih (p := p + 1) (by omega) (fun i h1 h2 => e i (by omega) h2)
    · rw [rn_stop (fun z => c z.2), rn_stop (fun z => c (e0.trans z.2))]
def isL (v : Nat) : Bool := decide (97 ≤ v ∧ v ≤ 122)
def isD (v : Nat) : Bool := decide (48 ≤ v ∧ v ≤ 57)
def gB (Bt : Nat → Nat) (b i : Nat) : Bool := i == b || (isL (Bt b) && isL (Bt i) || isD (Bt b) && isD (Bt i))
def tB (L : Nat) (Bt : Nat → Nat) (p : Nat) : Nat := rn (fun i => decide (Bt i = 32)) L p
def tE (L : Nat) (Bt : Nat → Nat) (b : Nat) : Nat := rn (gB Bt b) L b
/-- the class's text: read up to e, ln lines told -/
def XT (xT : GS) (L : Nat) (Bt : Nat → Nat) (e ln : Nat) : Prop := xT 0 1 = nI L ∧ xT 0 2 = nI ln ∧ xT 0 4 = nI e ∧ L ≤ 200 ∧ ∀ i, i < L → xT 1 i = nI (Bt i) ∧ Bt i < 256
theorem p_isLetter {v : Nat} (h : v < 256) : MX2_isLetter (nI v) = some (bI (isL v)) := by
  unfold MX2_isLetter isL
  by_cases a : v < 97
  · rw [decide_eq_false (by omega)]; simp (disch := omega) only [nm, jn0, jn1, jn2, jn3, jn4, jn5, bnd1_s, bnd2_s, bnd3_s, bnd4_s, lit_n, neg1, chkI_n, chkZ_n, chkC_n, bI_B, chkB_0, chkB_1, bI_t, bI_f, clamp_n, nI_add, subn, remn2, nat_rem, divn, pk_mul, ifle_t, ifle_f, iflt_t, iflt_f, ifeq_t, ifeq_f, ifm_f, ifm_t, if_true, if_false]
  · by_cases b : 122 < v
    · rw [decide_eq_false (by omega)]; simp (disch := omega) only [nm, jn0, jn1, jn2, jn3, jn4, jn5, bnd1_s, bnd2_s, bnd3_s, bnd4_s, lit_n, neg1, chkI_n, chkZ_n, chkC_n, bI_B, chkB_0, chkB_1, bI_t, bI_f, clamp_n, nI_add, subn, remn2, nat_rem, divn, pk_mul, ifle_t, ifle_f, iflt_t, iflt_f, ifeq_t, ifeq_f, ifm_f, ifm_t, if_true, if_false]
    · rw [decide_eq_true (by omega)]; simp (disch := omega) only [nm, jn0, jn1, jn2, jn3, jn4, jn5, bnd1_s, bnd2_s, bnd3_s, bnd4_s, lit_n, neg1, chkI_n, chkZ_n, chkC_n, bI_B, chkB_0, chkB_1, bI_t, bI_f, clamp_n, nI_add, subn, remn2, nat_rem, divn, pk_mul, ifle_t, ifle_f, iflt_t, iflt_f, ifeq_t, ifeq_f, ifm_f, ifm_t, if_true, if_false]
theorem p_isDigit {v : Nat} (h : v < 256) : MX2_isDigit (nI v) = some (bI (isD v)) := by
  unfold MX2_isDigit isD
  by_cases a : v < 48
  · rw [decide_eq_false (by omega)]; simp (disch := omega) only [nm, jn0, jn1, jn2, jn3, jn4, jn5, bnd1_s, bnd2_s, bnd3_s, bnd4_s, lit_n, neg1, chkI_n, chkZ_n, chkC_n, bI_B, chkB_0, chkB_1, bI_t, bI_f, clamp_n, nI_add, subn, remn2, nat_rem, divn, pk_mul, ifle_t, ifle_f, iflt_t, iflt_f, ifeq_t, ifeq_f, ifm_f, ifm_t, if_true, if_false]
  · by_cases b : 57 < v
    · rw [decide_eq_false (by omega)]; simp (disch := omega) only [nm, jn0, jn1, jn2, jn3, jn4, jn5, bnd1_s, bnd2_s, bnd3_s, bnd4_s, lit_n, neg1, chkI_n, chkZ_n, chkC_n, bI_B, chkB_0, chkB_1, bI_t, bI_f, clamp_n, nI_add, subn, remn2, nat_rem, divn, pk_mul, ifle_t, ifle_f, iflt_t, iflt_f, ifeq_t, ifeq_f, ifm_f, ifm_t, if_true, if_false]
    · rw [decide_eq_true (by omega)]; simp (disch := omega) only [nm, jn0, jn1, jn2, jn3, jn4, jn5, bnd1_s, bnd2_s, bnd3_s, bnd4_s, lit_n, neg1, chkI_n, chkZ_n, chkC_n, bI_B, chkB_0, chkB_1, bI_t, bI_f, clamp_n, nI_add, subn, remn2, nat_rem, divn, pk_mul, ifle_t, ifle_f, iflt_t, iflt_f, ifeq_t, ifeq_f, ifm_f, ifm_t, if_true, if_false]
theorem isL_D {v : Nat} (h : isL v = true) : isD v = false := by
  unfold isL at h
  unfold isD
  simp only [decide_eq_true_eq] at h
  exact decide_eq_false (by omega)
theorem p_goesOn {xT : GS} {L b i : Nat} {Bt : Nat → Nat} (h3 : xT 0 3 = nI b) (hB : ∀ i, i < L → xT 1 i = nI (Bt i) ∧ Bt i < 256) (hL : L ≤ 200) (hb : b ≤ i) (hi : i < L) : MX2_goesOn xT (nI i) = some (bI (gB Bt b i)) := by
  unfold MX2_goesOn gB
  by_cases c : i = b
  · have e : (i == b) = true := by simpa using c
    rw [e]
    simp (disch := omega) only [nm, jn0, jn1, jn2, jn3, jn4, jn5, bnd1_s, bnd2_s, bnd3_s, bnd4_s, lit_n, neg1, chkI_n, chkZ_n, chkC_n, bI_B, chkB_0, chkB_1, bI_t, bI_f, clamp_n, nI_add, subn, remn2, nat_rem, divn, pk_mul, ifle_t, ifle_f, iflt_t, iflt_f, ifeq_t, ifeq_f, ifm_f, ifm_t, if_true, if_false, h3, Bool.true_or]
  · have e : (i == b) = false := by simpa using c
    rw [e]
    obtain ⟨b1, b2⟩ := hB b (by omega)
    obtain ⟨i1, i2⟩ := hB i hi
    have l1 := p_isLetter b2
    have l2 := p_isLetter i2
    have d1 := p_isDigit b2
    have d2 := p_isDigit i2
    cases e1 : isL (Bt b) with
    | true =>
      have e3 := isL_D e1
      rw [e1] at l1
      rw [e3] at d1
      cases e2 : isL (Bt i) with
      | true =>
        rw [e2] at l2
        simp (disch := omega) only [nm, jn0, jn1, jn2, jn3, jn4, jn5, bnd1_s, bnd2_s, bnd3_s, bnd4_s, lit_n, neg1, chkI_n, chkZ_n, chkC_n, bI_B, chkB_0, chkB_1, bI_t, bI_f, clamp_n, nI_add, subn, remn2, nat_rem, divn, pk_mul, ifle_t, ifle_f, iflt_t, iflt_f, ifeq_t, ifeq_f, ifm_f, ifm_t, if_true, if_false, h3, b1, i1, l1, l2, e3, Bool.false_or, Bool.true_and, Bool.true_or]
      | false =>
        rw [e2] at l2
        simp (disch := omega) only [nm, jn0, jn1, jn2, jn3, jn4, jn5, bnd1_s, bnd2_s, bnd3_s, bnd4_s, lit_n, neg1, chkI_n, chkZ_n, chkC_n, bI_B, chkB_0, chkB_1, bI_t, bI_f, clamp_n, nI_add, subn, remn2, nat_rem, divn, pk_mul, ifle_t, ifle_f, iflt_t, iflt_f, ifeq_t, ifeq_f, ifm_f, ifm_t, if_true, if_false, h3, b1, i1, l1, l2, d1, e3, Bool.false_or, Bool.true_and, Bool.false_and]
    | false =>
      rw [e1] at l1
      cases e3 : isD (Bt b) with
      | true =>
        rw [e3] at d1
        cases e4 : isD (Bt i) with
        | true =>
          rw [e4] at d2
          simp (disch := omega) only [nm, jn0, jn1, jn2, jn3, jn4, jn5, bnd1_s, bnd2_s, bnd3_s, bnd4_s, lit_n, neg1, chkI_n, chkZ_n, chkC_n, bI_B, chkB_0, chkB_1, bI_t, bI_f, clamp_n, nI_add, subn, remn2, nat_rem, divn, pk_mul, ifle_t, ifle_f, iflt_t, iflt_f, ifeq_t, ifeq_f, ifm_f, ifm_t, if_true, if_false, h3, b1, i1, l1, d1, d2, Bool.false_or, Bool.true_and, Bool.false_and]
        | false =>
          rw [e4] at d2
          simp (disch := omega) only [nm, jn0, jn1, jn2, jn3, jn4, jn5, bnd1_s, bnd2_s, bnd3_s, bnd4_s, lit_n, neg1, chkI_n, chkZ_n, chkC_n, bI_B, chkB_0, chkB_1, bI_t, bI_f, clamp_n, nI_add, subn, remn2, nat_rem, divn, pk_mul, ifle_t, ifle_f, iflt_t, iflt_f, ifeq_t, ifeq_f, ifm_f, ifm_t, if_true, if_false, h3, b1, i1, l1, d1, d2, Bool.false_or, Bool.true_and, Bool.false_and]
      | false =>
        rw [e3] at d1
        simp (disch := omega) only [nm, jn0, jn1, jn2, jn3, jn4, jn5, bnd1_s, bnd2_s, bnd3_s, bnd4_s, lit_n, neg1, chkI_n, chkZ_n, chkC_n, bI_B, chkB_0, chkB_1, bI_t, bI_f, clamp_n, nI_add, subn, remn2, nat_rem, divn, pk_mul, ifle_t, ifle_f, iflt_t, iflt_f, ifeq_t, ifeq_f, ifm_f, ifm_t, if_true, if_false, h3, b1, l1, d1, Bool.false_or, Bool.false_and]
theorem p_step {xT : GS} {L p ln : Nat} {Bt : Nat → Nat} (hX : XT xT L Bt p ln) (hp : p ≤ L) : ∃ xT', MX2_stepToToken xT = some xT' ∧ XT xT' L Bt (tE L Bt (tB L Bt p)) ln ∧ xT' 0 3 = nI (tB L Bt p) ∧ tB L Bt p ≤ tE L Bt (tB L Bt p) ∧ tE L Bt (tB L Bt p) ≤ L := by
  obtain ⟨x1, x2, x4, xL, xB⟩ := hX
  have hb : p ≤ tB L Bt p ∧ tB L Bt p ≤ L := rn_le (g := fun i => decide (Bt i = 32)) hp
  have he : tB L Bt p ≤ tE L Bt (tB L Bt p) ∧ tE L Bt (tB L Bt p) ≤ L := rn_le (g := gB Bt (tB L Bt p)) (L := L) (p := tB L Bt p) hb.2
  unfold MX2_stepToToken
  simp (disch := omega) only [nm, jn0, jn1, jn2, jn3, jn4, jn5, bnd1_s, bnd2_s, bnd3_s, bnd4_s, lit_n, neg1, chkI_n, chkZ_n, chkC_n, bI_B, chkB_0, chkB_1, bI_t, bI_f, clamp_n, nI_add, subn, remn2, nat_rem, divn, pk_mul, ifle_t, ifle_f, iflt_t, iflt_f, ifeq_t, ifeq_f, ifm_f, ifm_t, if_true, if_false, x4]
  refine lq1_rel (fun i x => p + i ≤ L ∧ x = nI (p + i) ∧ rn (fun i => decide (Bt i = 32)) L (p + i) = tB L Bt p) (L - p) (fun r => ∃ xT', r = some xT' ∧ XT xT' L Bt (tE L Bt (tB L Bt p)) ln ∧ xT' 0 3 = nI (tB L Bt p) ∧ tB L Bt p ≤ tE L Bt (tB L Bt p) ∧ tE L Bt (tB L Bt p) ≤ L) ?_ _ ⟨hp, rfl, rfl⟩ (FU_lt (by omega))
  rintro i x hi ⟨hpi, rfl, hr⟩
  -- behind the blanks
  have fin : rn (fun i => decide (Bt i = 32)) L (p + i) = p + i → ∃ xT', lq1 (BX2_stepToToken_35 (up2 xT 0 3 (nI (p + i))) (fun x5 => some (up2 (up2 xT 0 3 (nI (p + i))) 0 4 x5))) FU (nI (p + i)) = some xT' ∧ XT xT' L Bt (tE L Bt (tB L Bt p)) ln ∧ xT' 0 3 = nI (tB L Bt p) ∧ tB L Bt p ≤ tE L Bt (tB L Bt p) ∧ tE L Bt (tB L Bt p) ≤ L := by
    intro hs
    have hbb : p + i = tB L Bt p := hs.symm.trans hr
    rw [hbb]
    generalize tB L Bt p = b at *
    refine lq1_rel (fun j x => b + j ≤ L ∧ x = nI (b + j) ∧ rn (gB Bt b) L (b + j) = tE L Bt b) (L - b) (fun r => ∃ xT', r = some xT' ∧ XT xT' L Bt (tE L Bt b) ln ∧ xT' 0 3 = nI b ∧ b ≤ tE L Bt b ∧ tE L Bt b ≤ L) ?_ _ ⟨hb.2, rfl, rfl⟩ (FU_lt (by omega))
    rintro j x hj ⟨hbj, rfl, hrj⟩
    have g1 : (up2 xT 0 3 (nI b)) 0 1 = nI L := by rw [up2_n (by decide)]; exact x1
    have g3 : (up2 xT 0 3 (nI b)) 0 3 = nI b := up2_s
    have gb : ∀ i, i < L → (up2 xT 0 3 (nI b)) 1 i = nI (Bt i) ∧ Bt i < 256 := fun i hi => by rw [up2_r (by decide)]; exact xB i hi
    have exit : rn (gB Bt b) L (b + j) = b + j → ∃ xT', some (up2 (up2 xT 0 3 (nI b)) 0 4 (nI (b + j))) = some xT' ∧ XT xT' L Bt (tE L Bt b) ln ∧ xT' 0 3 = nI b ∧ b ≤ tE L Bt b ∧ tE L Bt b ≤ L := by
      intro q
      have q' : b + j = tE L Bt b := q.symm.trans hrj
      rw [q']
      refine ⟨_, rfl, ⟨?_, ?_, up2_s, xL, fun i hi => ?_⟩, ?_, he.1, he.2⟩
      · rw [up2_n (by decide)]; exact g1
      · rw [up2_n (by decide), up2_n (by decide)]; exact x2
      · rw [up2_r (by decide)]; exact gb i hi
      · rw [up2_n (by decide)]; exact g3
    by_cases c : b + j < L
    · have hg := p_goesOn g3 gb xL (Nat.le_add_right b j) c
      cases k : gB Bt b (b + j) with
      | true =>
        rw [k] at hg
        refine Or.inl ⟨by omega, nI (b + (j + 1)), ⟨by omega, rfl, ?_⟩, fun rec => ?_⟩
        · rw [← hrj, rn_go c k]; rfl
        · unfold BX2_stepToToken_35
          simp (disch := omega) only [nm, jn0, jn1, jn2, jn3, jn4, jn5, bnd1_s, bnd2_s, bnd3_s, bnd4_s, lit_n, neg1, chkI_n, chkZ_n, chkC_n, bI_B, chkB_0, chkB_1, bI_t, bI_f, clamp_n, nI_add, subn, remn2, nat_rem, divn, pk_mul, ifle_t, ifle_f, iflt_t, iflt_f, ifeq_t, ifeq_f, ifm_f, ifm_t, if_true, if_false, g1, hg]
          rfl
      | false =>
        rw [k] at hg
        refine Or.inr ⟨_, exit (rn_stop (fun z => by rw [k] at z; cases z.2)), fun rec => ?_⟩
        unfold BX2_stepToToken_35
        simp (disch := omega) only [nm, jn0, jn1, jn2, jn3, jn4, jn5, bnd1_s, bnd2_s, bnd3_s, bnd4_s, lit_n, neg1, chkI_n, chkZ_n, chkC_n, bI_B, chkB_0, chkB_1, bI_t, bI_f, clamp_n, nI_add, subn, remn2, nat_rem, divn, pk_mul, ifle_t, ifle_f, iflt_t, iflt_f, ifeq_t, ifeq_f, ifm_f, ifm_t, if_true, if_false, g1, hg]
    · refine Or.inr ⟨_, exit (rn_stop (fun z => c z.1)), fun rec => ?_⟩
      unfold BX2_stepToToken_35
      simp (disch := omega) only [nm, jn0, jn1, jn2, jn3, jn4, jn5, bnd1_s, bnd2_s, bnd3_s, bnd4_s, lit_n, neg1, chkI_n, chkZ_n, chkC_n, bI_B, chkB_0, chkB_1, bI_t, bI_f, clamp_n, nI_add, subn, remn2, nat_rem, divn, pk_mul, ifle_t, ifle_f, iflt_t, iflt_f, ifeq_t, ifeq_f, ifm_f, ifm_t, if_true, if_false, g1]
  by_cases c : p + i < L
  · have eb := xB (p + i) c
    by_cases k : Bt (p + i) = 32
    · refine Or.inl ⟨by omega, nI (p + (i + 1)), ⟨by omega, rfl, ?_⟩, fun rec => ?_⟩
      · rw [← hr, rn_go c (by simpa using k)]; rfl
      · unfold BX2_stepToToken_5
        have e2 := eb.1
        simp (disch := omega) only [nm, jn0, jn1, jn2, jn3, jn4, jn5, bnd1_s, bnd2_s, bnd3_s, bnd4_s, lit_n, neg1, chkI_n, chkZ_n, chkC_n, bI_B, chkB_0, chkB_1, bI_t, bI_f, clamp_n, nI_add, subn, remn2, nat_rem, divn, pk_mul, ifle_t, ifle_f, iflt_t, iflt_f, ifeq_t, ifeq_f, ifm_f, ifm_t, if_true, if_false, x1, e2]
        rfl
    · obtain ⟨xT', f1, f2⟩ := fin (rn_stop (fun z => k (by simpa using z.2)))
      refine Or.inr ⟨some xT', ⟨xT', rfl, f2⟩, fun rec => ?_⟩
      have e2 := eb.1
      unfold BX2_stepToToken_5
      simp (disch := omega) only [nm, jn0, jn1, jn2, jn3, jn4, jn5, bnd1_s, bnd2_s, bnd3_s, bnd4_s, lit_n, neg1, chkI_n, chkZ_n, chkC_n, bI_B, chkB_0, chkB_1, bI_t, bI_f, clamp_n, nI_add, subn, remn2, nat_rem, divn, pk_mul, ifle_t, ifle_f, iflt_t, iflt_f, ifeq_t, ifeq_f, ifm_f, ifm_t, if_true, if_false, x1, e2]
      exact f1
  · obtain ⟨xT', f1, f2⟩ := fin (rn_stop (fun z => c z.1))
    refine Or.inr ⟨some xT', ⟨xT', rfl, f2⟩, fun rec => ?_⟩
    unfold BX2_stepToToken_5
    simp (disch := omega) only [nm, jn0, jn1, jn2, jn3, jn4, jn5, bnd1_s, bnd2_s, bnd3_s, bnd4_s, lit_n, neg1, chkI_n, chkZ_n, chkC_n, bI_B, chkB_0, chkB_1, bI_t, bI_f, clamp_n, nI_add, subn, remn2, nat_rem, divn, pk_mul, ifle_t, ifle_f, iflt_t, iflt_f, ifeq_t, ifeq_f, ifm_f, ifm_t, if_true, if_false, x1]
    exact f1
/-! words -/
def WN : List (List Nat) := [[103, 114, 101, 101, 110], [99, 114, 111, 112], [110, 97, 114, 114, 111, 119], [99, 97, 114, 116], [115, 116, 117, 99, 107], [119, 105, 100, 101], [112, 97, 116, 104], [102, 101, 117, 100], [108, 111, 116], [99, 108, 101, 97, 114], [97, 103, 101], [116, 117, 114, 110], [114, 101, 115, 116]]
def wN (k j : Nat) : Nat := (WN.getD k []).getD j 0
theorem wL_eq : ∀ k, k < 13 → wL k = (WN.getD k []).length := by decide
theorem wB_eq : ∀ k, k < 13 → ∀ j, j < 7 → wB k j &&& 255 = nI (wN k j) := by decide +kernel
theorem wL_6 : ∀ k, k < 13 → wL k ≤ 6 := by decide
theorem wN_l : ∀ k, k < 13 → ∀ j, j < wL k → 97 ≤ wN k j ∧ wN k j ≤ 122 := by decide +kernel
def isW (Bt : Nat → Nat) (b e k : Nat) : Bool := decide (e = b + wL k) && (fst1 (fun j => decide (Bt (b + j) ≠ wN k j)) (wL k)).isNone
theorem p_isWord {xT : GS} {L e ln b k : Nat} {Bt : Nat → Nat} (hX : XT xT L Bt e ln) (h3 : xT 0 3 = nI b) (hbe : b ≤ e) (heL : e ≤ L) (hk : k < 13) : MX2_isWord (wL k) (wB k) xT = some (bI (isW Bt b e k)) := by
  obtain ⟨x1, x2, x4, xL, xB⟩ := hX
  have h6 := wL_6 k hk
  have hq : Int32.ofNat (wL k) = nI (wL k) := rfl
  unfold MX2_isWord isW
  by_cases c : e = b + wL k
  · rw [decide_eq_true c, Bool.true_and]
    rw [hq]
    simp (disch := omega) only [nm, jn0, jn1, jn2, jn3, jn4, jn5, bnd1_s, bnd2_s, bnd3_s, bnd4_s, lit_n, neg1, chkI_n, chkZ_n, chkC_n, bI_B, chkB_0, chkB_1, bI_t, bI_f, clamp_n, nI_add, subn, remn2, nat_rem, divn, pk_mul, ifle_t, ifle_f, iflt_t, iflt_f, ifeq_t, ifeq_f, ifm_f, ifm_t, if_true, if_false, h3, x4]
    refine lq1_rel (fun i x => x = nI i ∧ fst1 (fun j => decide (Bt (b + j) ≠ wN k j)) i = none) (wL k) (fun r => r = some (bI (fst1 (fun j => decide (Bt (b + j) ≠ wN k j)) (wL k)).isNone)) ?_ _ ⟨rfl, rfl⟩ (FU_lt (by omega))
    rintro i x hi ⟨rfl, hn⟩
    by_cases d : i < wL k
    · obtain ⟨e1, e2⟩ := xB (b + i) (by omega)
      have e3 := wB_eq k hk i (by omega)
      have e4 := wN_l k hk i d
      have hs := fst1_s0 hn
      by_cases z : Bt (b + i) = wN k i
      · refine Or.inl ⟨d, nI (i + 1), ⟨rfl, by rw [hs]; simp [z]⟩, fun rec => ?_⟩
        unfold BX2_isWord_20
        rw [hq]
        have e5 : nI (Bt (b + i)) = wB k i &&& 255 := by rw [e3, z]
        simp (disch := omega) only [nm, jn0, jn1, jn2, jn3, jn4, jn5, bnd1_s, bnd2_s, bnd3_s, bnd4_s, lit_n, neg1, chkI_n, chkZ_n, chkC_n, bI_B, chkB_0, chkB_1, bI_t, bI_f, clamp_n, nI_add, subn, remn2, nat_rem, divn, pk_mul, ifle_t, ifle_f, iflt_t, iflt_f, ifeq_t, ifeq_f, ifm_f, ifm_t, if_true, if_false, h3, e1]
        rw [show wB k i &&& nI 255 = wB k i &&& 255 from rfl, if_pos e5]
      · have y : decide (Bt (b + i) ≠ wN k i) = true := by simpa using z
        have e6 := fst1_mono (m := wL k) (hs.trans (if_pos y)) (by omega)
        refine Or.inr ⟨_, rfl, fun rec => ?_⟩
        unfold BX2_isWord_20
        rw [hq, e6]
        have e5 : ¬ nI (Bt (b + i)) = wB k i &&& 255 := by
          rw [e3, nI_eq (by omega) (by omega)]; exact z
        simp (disch := omega) only [nm, jn0, jn1, jn2, jn3, jn4, jn5, bnd1_s, bnd2_s, bnd3_s, bnd4_s, lit_n, neg1, chkI_n, chkZ_n, chkC_n, bI_B, chkB_0, chkB_1, bI_t, bI_f, clamp_n, nI_add, subn, remn2, nat_rem, divn, pk_mul, ifle_t, ifle_f, iflt_t, iflt_f, ifeq_t, ifeq_f, ifm_f, ifm_t, if_true, if_false, h3, e1, Option.isNone_some]
        rw [show wB k i &&& nI 255 = wB k i &&& 255 from rfl, if_neg e5]
    · have : i = wL k := by omega
      rw [this] at hn ⊢
      refine Or.inr ⟨_, rfl, fun rec => ?_⟩
      unfold BX2_isWord_20
      rw [hq, hn]
      simp (disch := omega) only [nm, jn0, jn1, jn2, jn3, jn4, jn5, bnd1_s, bnd2_s, bnd3_s, bnd4_s, lit_n, neg1, chkI_n, chkZ_n, chkC_n, bI_B, chkB_0, chkB_1, bI_t, bI_f, clamp_n, nI_add, subn, remn2, nat_rem, divn, pk_mul, ifle_t, ifle_f, iflt_t, iflt_f, ifeq_t, ifeq_f, ifm_f, ifm_t, if_true, if_false, Option.isNone_none]
  · rw [decide_eq_false c, Bool.false_and]
    rw [hq]
    simp (disch := omega) only [nm, jn0, jn1, jn2, jn3, jn4, jn5, bnd1_s, bnd2_s, bnd3_s, bnd4_s, lit_n, neg1, chkI_n, chkZ_n, chkC_n, bI_B, chkB_0, chkB_1, bI_t, bI_f, clamp_n, nI_add, subn, remn2, nat_rem, divn, pk_mul, ifle_t, ifle_f, iflt_t, iflt_f, ifeq_t, ifeq_f, ifm_f, ifm_t, if_true, if_false, h3, x4]
