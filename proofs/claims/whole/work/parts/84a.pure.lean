/-! ===== what is foretold: who is beside, opposite; frames; arguments ===== -/
def opN (T : NN) (P : Nat → Nat) (a b : Nat) : Bool := decide (T 0 0 % 2 = 0 ∧ (P a + T 0 0 / 2 + T 0 0) % T 0 0 = P b)
def mts (T : NN) (P : Nat → Nat) (a b w : Nat) : Bool := if w = 0 then bes T P a b else opN T P a b
theorem opp_iff {p x y : Nat} (hx : x < p) (hy : y < p) : (p % 2 = 0 ∧ (x + p / 2 + p) % p = y) ↔ (2 * (x - y) = p ∨ 2 * (y - x) = p) := by
  rw [Nat.add_mod_right]
  by_cases c : x + p / 2 < p
  · rw [Nat.mod_eq_of_lt c]; omega
  · have : (x + p / 2) % p = x + p / 2 - p := by
      rw [show x + p / 2 = x + p / 2 - p + p by omega, Nat.add_mod_right, Nat.mod_eq_of_lt (by omega)]
      omega
    rw [this]; omega
theorem p_areOpposite {gS tT : GS} {T : NN} (hT : RT tT T) (hI : IT T) {P : Nat → Nat} {a b : Nat} (hP : ∀ h, h < T 0 1 → gS 1 h = nI (P h)) (hl : ∀ h, h < T 0 1 → P h < T 0 0) (ha : a < T 0 1) (hb : b < T 0 1) : MX1_areOpposite gS tT (nI a) (nI b) = some (bI (opN T P a b)) := by
  have i2 := hI.1.2.2.1
  have i1 := hI.1.2.1
  have h0 := hT.1.1
  have pa := hP a ha
  have pb := hP b hb
  have la := hl a ha
  have lb := hl b hb
  have hiff := opp_iff la lb
  have habs : (if (0 : Int32) ≤ (nI (P a) - nI (P b)) then (nI (P a) - nI (P b)) else 0 - (nI (P a) - nI (P b))) = nI ((P a - P b) + (P b - P a)) := by
    by_cases c : P b ≤ P a
    · rw [subn c, if_pos (nI_pos' (by omega))]
      congr 1; omega
    · have hn := pk_sneg (a := P a) (b := P b) (by omega) (by omega)
      rw [if_neg (fun z => by
        rw [Int32.le_iff_toInt_le] at z
        rw [Int32.lt_iff_toInt_lt] at hn
        omega)]
      have : (0 : Int32) - (nI (P a) - nI (P b)) = nI (P b) - nI (P a) := by
        rw [Int32.zero_sub, Int32.neg_sub]
      rw [this, subn (by omega)]
      congr 1; omega
  have e1 : (nI a).toNatClampNeg = a := nI_clamp (by omega)
  have e2 : (nI b).toNatClampNeg = b := nI_clamp (by omega)
  unfold MX1_areOpposite
  rw [e1, e2, pa, pb, habs, h0]
  unfold opN
  by_cases c : T 0 0 % 2 = 0 ∧ (P a + T 0 0 / 2 + T 0 0) % T 0 0 = P b
  · have := hiff.mp c
    rw [decide_eq_true c]
    simp (disch := omega) only [nm, jn0, jn1, jn2, jn3, jn4, jn5, bnd1_s, bnd2_s, bnd3_s, bnd4_s, lit_n, neg1, chkI_n, chkZ_n, chkC_n, bI_B, chkB_0, chkB_1, bI_t, bI_f, clamp_n, nI_add, subn, remn2, nat_rem, divn, pk_mul, ifle_t, ifle_f, iflt_t, iflt_f, ifeq_t, ifeq_f, ifm_f, ifm_t, if_true, if_false]
  · have : ¬ (2 * (P a - P b) = T 0 0 ∨ 2 * (P b - P a) = T 0 0) := fun z => c (hiff.mpr z)
    rw [decide_eq_false c]
    simp (disch := omega) only [nm, jn0, jn1, jn2, jn3, jn4, jn5, bnd1_s, bnd2_s, bnd3_s, bnd4_s, lit_n, neg1, chkI_n, chkZ_n, chkC_n, bI_B, chkB_0, chkB_1, bI_t, bI_f, clamp_n, nI_add, subn, remn2, nat_rem, divn, pk_mul, ifle_t, ifle_f, iflt_t, iflt_f, ifeq_t, ifeq_f, ifm_f, ifm_t, if_true, if_false]
theorem p_meets {gS tT : GS} {T : NN} (hT : RT tT T) (hI : IT T) {P : Nat → Nat} {a b w : Nat} (hP : ∀ h, h < T 0 1 → gS 1 h = nI (P h)) (hl : ∀ h, h < T 0 1 → P h < T 0 0) (ha : a < T 0 1) (hb : b < T 0 1) (hw : w < 100) : MX1_meets gS tT (nI a) (nI b) (nI w) = some (bI (mts T P a b w)) := by
  have h1 := p_areBeside hT hI hP hl ha hb
  have h2 := p_areOpposite hT hI hP hl ha hb
  unfold MX1_meets mts
  by_cases c : w = 0
  · rw [if_pos c]; simp (disch := omega) only [nm, jn0, jn1, jn2, jn3, jn4, jn5, bnd1_s, bnd2_s, bnd3_s, bnd4_s, lit_n, neg1, chkI_n, chkZ_n, chkC_n, bI_B, chkB_0, chkB_1, bI_t, bI_f, clamp_n, nI_add, subn, remn2, nat_rem, divn, pk_mul, ifle_t, ifle_f, iflt_t, iflt_f, ifeq_t, ifeq_f, ifm_f, ifm_t, if_true, if_false, h1]
  · rw [if_neg c]; simp (disch := omega) only [nm, jn0, jn1, jn2, jn3, jn4, jn5, bnd1_s, bnd2_s, bnd3_s, bnd4_s, lit_n, neg1, chkI_n, chkZ_n, chkC_n, bI_B, chkB_0, chkB_1, bI_t, bI_f, clamp_n, nI_add, subn, remn2, nat_rem, divn, pk_mul, ifle_t, ifle_f, iflt_t, iflt_f, ifeq_t, ifeq_f, ifm_f, ifm_t, if_true, if_false, h2]
theorem r_areBeside {mM : GS} {T : NN} {P : Nat → Nat} (hM : RM mM T) (hI : IT T) (hP : ∀ h, h < T 0 1 → mM 8 h = nI (P h)) (hl : ∀ h, h < T 0 1 → P h < T 0 0) {a b : Nat} (ha : a < T 0 1) (hb : b < T 0 1) : MX5_areBeside mM (nI a) (nI b) = some (bI (bes T P a b)) := by
  have i2 := hI.1.2.2.1
  have i1 := hI.1.2.1
  have i0 := hI.1.1
  have h0 := hM.1.1
  unfold MX5_areBeside jn1
  have key := lq2_rel (f := BX5_areBeside_5 mM (fun x1 => chkB x1 (some x1)) (nI a) (nI b)) (fun i x y => y = nI i ∧ ∃ v : Bool, x = bI v ∧ (v = true ↔ ∃ q, q < i ∧ sOn T P a q = true ∧ (sOn T P b (nx (T 0 0) q) = true ∨ sOn T P b (pv (T 0 0) q) = true))) (T 0 0) (fun r => r = some (bI (bes T P a b))) ?_ (0 : Int32) (0 : Int32) ⟨rfl, false, rfl, by simp⟩ (FU_lt (by omega))
  · exact key
  rintro i x y hi ⟨rfl, v, rfl, hv⟩
  by_cases c : i < T 0 0
  · refine Or.inl ⟨c, ?_⟩
    have s1 := r_standsOn hM hI hP hl ha (q := i) (by omega)
    have ln : nx (T 0 0) i < T 0 0 := nx_lt (by omega)
    have lp : pv (T 0 0) i < T 0 0 := pv_lt c
    have s2 := r_standsOn hM hI hP hl hb (q := nx (T 0 0) i) (by omega)
    have s3 := r_standsOn hM hI hP hl hb (q := pv (T 0 0) i) (by omega)
    have n1 := r_next1 hM hI c
    have n2 := r_nextm hM hI c
    have ext : (∃ q, q < i + 1 ∧ sOn T P a q = true ∧ (sOn T P b (nx (T 0 0) q) = true ∨ sOn T P b (pv (T 0 0) q) = true)) ↔ (v = true ∨ (sOn T P a i = true ∧ (sOn T P b (nx (T 0 0) i) = true ∨ sOn T P b (pv (T 0 0) i) = true))) := by
      constructor
      · rintro ⟨q, h1, h2⟩
        by_cases k : q = i
        · subst k; exact Or.inr h2
        · exact Or.inl (hv.mpr ⟨q, by omega, h2⟩)
      · rintro (h | h)
        · obtain ⟨q, h1, h2⟩ := hv.mp h
          exact ⟨q, by omega, h2⟩
        · exact ⟨i, by omega, h⟩
    refine ⟨bI (v || (sOn T P a i && (sOn T P b (nx (T 0 0) i) || sOn T P b (pv (T 0 0) i)))), nI (i + 1), ⟨rfl, _, rfl, ?_⟩, fun rec => ?_⟩
    · rw [ext]
      simp only [Bool.or_eq_true, Bool.and_eq_true]
    · unfold BX5_areBeside_5
      cases v with
      | true => simp (disch := omega) only [nm, jn0, jn1, jn2, jn3, jn4, jn5, bnd1_s, bnd2_s, bnd3_s, bnd4_s, lit_n, neg1, chkI_n, chkZ_n, chkC_n, bI_B, chkB_0, chkB_1, bI_t, bI_f, clamp_n, nI_add, subn, remn2, nat_rem, divn, pk_mul, ifle_t, ifle_f, iflt_t, iflt_f, ifeq_t, ifeq_f, ifm_f, ifm_t, if_true, if_false, h0, Bool.true_or]
      | false =>
        cases e1 : sOn T P a i with
        | false =>
          rw [e1] at s1
          simp (disch := omega) only [nm, jn0, jn1, jn2, jn3, jn4, jn5, bnd1_s, bnd2_s, bnd3_s, bnd4_s, lit_n, neg1, chkI_n, chkZ_n, chkC_n, bI_B, chkB_0, chkB_1, bI_t, bI_f, clamp_n, nI_add, subn, remn2, nat_rem, divn, pk_mul, ifle_t, ifle_f, iflt_t, iflt_f, ifeq_t, ifeq_f, ifm_f, ifm_t, if_true, if_false, h0, s1, Bool.false_and, Bool.or_false]
        | true =>
          rw [e1] at s1
          cases e2 : sOn T P b (nx (T 0 0) i) with
          | true =>
            rw [e2] at s2
            simp (disch := omega) only [nm, jn0, jn1, jn2, jn3, jn4, jn5, bnd1_s, bnd2_s, bnd3_s, bnd4_s, lit_n, neg1, chkI_n, chkZ_n, chkC_n, bI_B, chkB_0, chkB_1, bI_t, bI_f, clamp_n, nI_add, subn, remn2, nat_rem, divn, pk_mul, ifle_t, ifle_f, iflt_t, iflt_f, ifeq_t, ifeq_f, ifm_f, ifm_t, if_true, if_false, h0, s1, s2, n1, Bool.true_and, Bool.true_or, Bool.or_true]
          | false =>
            rw [e2] at s2
            cases e3 : sOn T P b (pv (T 0 0) i) with
            | true =>
              rw [e3] at s3
              simp (disch := omega) only [nm, jn0, jn1, jn2, jn3, jn4, jn5, bnd1_s, bnd2_s, bnd3_s, bnd4_s, lit_n, neg1, chkI_n, chkZ_n, chkC_n, bI_B, chkB_0, chkB_1, bI_t, bI_f, clamp_n, nI_add, subn, remn2, nat_rem, divn, pk_mul, ifle_t, ifle_f, iflt_t, iflt_f, ifeq_t, ifeq_f, ifm_f, ifm_t, if_true, if_false, h0, s1, s2, s3, n1, n2, Bool.true_and, Bool.or_true]
            | false =>
              rw [e3] at s3
              simp (disch := omega) only [nm, jn0, jn1, jn2, jn3, jn4, jn5, bnd1_s, bnd2_s, bnd3_s, bnd4_s, lit_n, neg1, chkI_n, chkZ_n, chkC_n, bI_B, chkB_0, chkB_1, bI_t, bI_f, clamp_n, nI_add, subn, remn2, nat_rem, divn, pk_mul, ifle_t, ifle_f, iflt_t, iflt_f, ifeq_t, ifeq_f, ifm_f, ifm_t, if_true, if_false, h0, s1, s2, s3, n1, n2, Bool.true_and, Bool.or_false]
  · have : i = T 0 0 := by omega
    subst this
    refine Or.inr ⟨_, rfl, fun rec => ?_⟩
    have e : bes T P a b = v := by
      unfold bes
      cases v with
      | true => exact decide_eq_true (hv.mp rfl)
      | false => exact decide_eq_false (fun z => by have := hv.mpr z; cases this)
    unfold BX5_areBeside_5
    rw [e]
    simp (disch := omega) only [nm, jn0, jn1, jn2, jn3, jn4, jn5, bnd1_s, bnd2_s, bnd3_s, bnd4_s, lit_n, neg1, chkI_n, chkZ_n, chkC_n, bI_B, chkB_0, chkB_1, bI_t, bI_f, clamp_n, nI_add, subn, remn2, nat_rem, divn, pk_mul, ifle_t, ifle_f, iflt_t, iflt_f, ifeq_t, ifeq_f, ifm_f, ifm_t, if_true, if_false, h0]
theorem r_doTouch {mM : GS} {T : NN} {P : Nat → Nat} (hM : RM mM T) (hI : IT T) (hP : ∀ h, h < T 0 1 → mM 8 h = nI (P h)) (hl : ∀ h, h < T 0 1 → P h < T 0 0) {a b w : Nat} (ha : a < T 0 1) (hb : b < T 0 1) (hw : w < 100) : MX5_doTouch mM (nI a) (nI b) (nI w) = some (bI (mts T P a b w)) := by
  have i2 := hI.1.2.2.1
  have i1 := hI.1.2.1
  have h0 := hM.1.1
  have pa := hP a ha
  have pb := hP b hb
  have la := hl a ha
  have lb := hl b hb
  have h1 := r_areBeside hM hI hP hl ha hb
  have hn := r_next hM hI (q := P a) (k := T 0 0 / 2) (by omega) (by omega)
  have hm : (P a + T 0 0 / 2 + T 0 0) % T 0 0 < T 0 0 := Nat.mod_lt _ (by omega)
  unfold MX5_doTouch mts
  by_cases c : w = 0
  · rw [if_pos c]; simp (disch := omega) only [nm, jn0, jn1, jn2, jn3, jn4, jn5, bnd1_s, bnd2_s, bnd3_s, bnd4_s, lit_n, neg1, chkI_n, chkZ_n, chkC_n, bI_B, chkB_0, chkB_1, bI_t, bI_f, clamp_n, nI_add, subn, remn2, nat_rem, divn, pk_mul, ifle_t, ifle_f, iflt_t, iflt_f, ifeq_t, ifeq_f, ifm_f, ifm_t, if_true, if_false, h1]
  · rw [if_neg c]
    unfold opN
    by_cases d : T 0 0 % 2 = 0
    · by_cases e : (P a + T 0 0 / 2 + T 0 0) % T 0 0 = P b
      · rw [decide_eq_true ⟨d, e⟩]
        simp (disch := omega) only [nm, jn0, jn1, jn2, jn3, jn4, jn5, bnd1_s, bnd2_s, bnd3_s, bnd4_s, lit_n, neg1, chkI_n, chkZ_n, chkC_n, bI_B, chkB_0, chkB_1, bI_t, bI_f, clamp_n, nI_add, subn, remn2, nat_rem, divn, pk_mul, ifle_t, ifle_f, iflt_t, iflt_f, ifeq_t, ifeq_f, ifm_f, ifm_t, if_true, if_false, h0, pa, pb, hn]
      · rw [decide_eq_false (fun z => e z.2)]
        simp (disch := omega) only [nm, jn0, jn1, jn2, jn3, jn4, jn5, bnd1_s, bnd2_s, bnd3_s, bnd4_s, lit_n, neg1, chkI_n, chkZ_n, chkC_n, bI_B, chkB_0, chkB_1, bI_t, bI_f, clamp_n, nI_add, subn, remn2, nat_rem, divn, pk_mul, ifle_t, ifle_f, iflt_t, iflt_f, ifeq_t, ifeq_f, ifm_f, ifm_t, if_true, if_false, h0, pa, pb, hn]
    · rw [decide_eq_false (fun z => d z.1)]
      simp (disch := omega) only [nm, jn0, jn1, jn2, jn3, jn4, jn5, bnd1_s, bnd2_s, bnd3_s, bnd4_s, lit_n, neg1, chkI_n, chkZ_n, chkC_n, bI_B, chkB_0, chkB_1, bI_t, bI_f, clamp_n, nI_add, subn, remn2, nat_rem, divn, pk_mul, ifle_t, ifle_f, iflt_t, iflt_f, ifeq_t, ifeq_f, ifm_f, ifm_t, if_true, if_false, h0]
/-! frames of the reference -/
def core (i j : Nat) : Prop := (1 ≤ i ∧ i ≤ 6) ∨ (10 ≤ i ∧ i ≤ 12) ∨ (i = 0 ∧ (j = 0 ∨ j = 2 ∨ j = 5 ∨ j = 7 ∨ j = 9 ∨ j = 10 ∨ j = 11 ∨ j = 30))
def fCs (g g' : GS) : Prop := ∀ i j, core i j → g' i j = g i j
def fFs (g g' : GS) : Prop := fCs g g' ∧ ∀ j, j < 19 → g' 8 j = g 8 j
def bks (g g' : GS) : Prop := fCs g g' ∧ ∀ j, j < 19 → g' 9 j = g 8 j
theorem fCs.refl {g : GS} : fCs g g := fun _ _ _ => rfl
theorem fCs.trans {g g' g'' : GS} (h : fCs g g') (h' : fCs g' g'') : fCs g g'' := fun i j c => (h' i j c).trans (h i j c)
theorem fFs.refl {g : GS} : fFs g g := ⟨fCs.refl, fun _ _ => rfl⟩
theorem fFs.trans {g g' g'' : GS} (h : fFs g g') (h' : fFs g' g'') : fFs g g'' := ⟨h.1.trans h'.1, fun j c => (h'.2 j c).trans (h.2 j c)⟩
theorem fNs.c {g g' : GS} (h : fNs g g') : fCs g g' := fun i j c => by
  unfold core at c
  exact h i j (by omega) (by omega) (by omega)
theorem fWs.f {g g' : GS} (h : fWs g g') : fFs g g' := ⟨h.n.c, fun j _ => h 8 j (by decide) (by simp)⟩
theorem bks.n {g g1 g2 : GS} (h : bks g g1) (f : fNs g1 g2) : bks g g2 := ⟨h.1.trans f.c, fun j hj => by rw [f 9 j (by decide) (by decide) (by simp)]; exact h.2 j hj⟩
theorem RM.fC {g g' : GS} {T : NN} (h : RM g T) (f : fCs g g') : RM g' T := by
  obtain ⟨⟨h0, h1, h2, h3, h4, h5⟩, r1, r2, r3, r4, r5, r6, r7⟩ := h
  have c0 : ∀ j, (j = 0 ∨ j = 2 ∨ j = 5 ∨ j = 7 ∨ j = 9 ∨ j = 10 ∨ j = 11 ∨ j = 30) → g' 0 j = g 0 j := fun j hj => f 0 j (Or.inr (Or.inr ⟨rfl, hj⟩))
  have c1 : ∀ i j, 1 ≤ i → i ≤ 6 → g' i j = g i j := fun i j a b => f i j (Or.inl ⟨a, b⟩)
  refine ⟨⟨?_, ?_, ?_, ?_, ?_, ?_⟩, fun q hq => ?_, fun q hq => ?_, fun q hq => ?_, fun q hq => ?_, fun q hq => ?_, fun q hq => ?_, fun q hq => ?_⟩
  · rw [c0 0 (by simp)]; exact h0
  · rw [c0 2 (by simp)]; exact h1
  · rw [c0 5 (by simp)]; exact h2
  · rw [c0 7 (by simp)]; exact h3
  · rw [c0 9 (by simp)]; exact h4
  · rw [c0 10 (by simp)]; exact h5
  · rw [c1 1 _ (by decide) (by decide)]; exact r1 q hq
  · rw [c1 2 _ (by decide) (by decide)]; exact r2 q hq
  · rw [c1 3 _ (by decide) (by decide)]; exact r3 q hq
  · rw [c1 4 _ (by decide) (by decide)]; exact r4 q hq
  · rw [c1 4 _ (by decide) (by decide)]; exact r5 q hq
  · rw [c1 5 _ (by decide) (by decide)]; exact r6 q hq
  · rw [c1 5 _ (by decide) (by decide)]; exact r7 q hq
theorem RN.row {g g' : GS} {T S : NN} (hI : IT T) (h : RN g T S) (e : ∀ j, j < 19 → g' 8 j = g 8 j) : RN g' T S := by
  have i2 := hI.1.2.2.1
  obtain ⟨r1, r2, r3, r4, r5⟩ := h
  exact ⟨fun h hh => by rw [e _ (by omega)]; exact r1 h hh, fun h hh => by rw [e _ (by omega)]; exact r2 h hh, by rw [e _ (by decide)]; exact r3, by rw [e _ (by decide)]; exact r4, by rw [e _ (by decide)]; exact r5⟩
theorem r_copy {n1 n2 a b : Nat} {f1 f2 : Nat → Int32} (h1 : a + 19 ≤ n1) (h2 : b + 19 ≤ n2) (l1 : n1 < 10000) (l2 : n2 < 10000) : ∃ f', MX5_copy n1 n2 f1 f2 (nI a) (nI b) = some f' ∧ (∀ j, j < 19 → f' (b + j) = f1 (a + j)) ∧ (∀ j, (j < b ∨ b + 19 ≤ j) → f' j = f2 j) := by
  unfold MX5_copy jn1
  refine lq2_rel (fun i x (g : Nat → Int32) => x = nI i ∧ (∀ j, j < i → g (b + j) = f1 (a + j)) ∧ (∀ j, (j < b ∨ b + i ≤ j) → g j = f2 j)) 19 (fun r => ∃ f' : Nat → Int32, r = some f' ∧ (∀ j, j < 19 → f' (b + j) = f1 (a + j)) ∧ (∀ j, (j < b ∨ b + 19 ≤ j) → f' j = f2 j)) ?_ _ _ ⟨rfl, fun j h => absurd h (Nat.not_lt_zero _), fun j _ => rfl⟩ (FU_lt (by omega))
  rintro i x g hi ⟨rfl, hg, hk⟩
  by_cases c : i < 19
  · refine Or.inl ⟨c, nI (i + 1), upd g (b + i) (f1 (a + i)), ⟨rfl, fun j hj => ?_, fun j hj => ?_⟩, fun rec => ?_⟩
    · by_cases k : j = i
      · subst k; exact pk_us
      · rw [pk_un (by omega)]; exact hg j (by omega)
    · rw [pk_un (by omega)]; exact hk j (by omega)
    · unfold BX5_copy_3
      simp (disch := omega) only [nm, jn0, jn1, jn2, jn3, jn4, jn5, bnd1_s, bnd2_s, bnd3_s, bnd4_s, lit_n, neg1, chkI_n, chkZ_n, chkC_n, bI_B, chkB_0, chkB_1, bI_t, bI_f, clamp_n, nI_add, subn, remn2, nat_rem, divn, pk_mul, ifle_t, ifle_f, iflt_t, iflt_f, ifeq_t, ifeq_f, ifm_f, ifm_t, if_true, if_false]
  · have : i = 19 := by omega
    subst this
    refine Or.inr ⟨_, ⟨g, rfl, hg, hk⟩, fun rec => ?_⟩
    unfold BX5_copy_3
    simp (disch := omega) only [nm, jn0, jn1, jn2, jn3, jn4, jn5, bnd1_s, bnd2_s, bnd3_s, bnd4_s, lit_n, neg1, chkI_n, chkZ_n, chkC_n, bI_B, chkB_0, chkB_1, bI_t, bI_f, clamp_n, nI_add, subn, remn2, nat_rem, divn, pk_mul, ifle_t, ifle_f, iflt_t, iflt_f, ifeq_t, ifeq_f, ifm_f, ifm_t, if_true, if_false]
theorem r_putAside (mM : GS) : ∃ m', MX5_putAside mM = some m' ∧ bks mM m' ∧ (∀ j, m' 8 j = mM 8 j) ∧ m' 0 34 = mM 0 9 := by
  obtain ⟨f', hf, h1, h2⟩ := r_copy (n1 := 19) (n2 := 19) (a := 0) (b := 0) (f1 := mM 8) (f2 := mM 9) (by decide) (by decide) (by decide) (by decide)
  unfold MX5_putAside
  simp (disch := omega) only [nm, jn0, jn1, jn2, jn3, jn4, jn5, bnd1_s, bnd2_s, bnd3_s, bnd4_s, lit_n, neg1, chkI_n, chkZ_n, chkC_n, bI_B, chkB_0, chkB_1, bI_t, bI_f, clamp_n, nI_add, subn, remn2, nat_rem, divn, pk_mul, ifle_t, ifle_f, iflt_t, iflt_f, ifeq_t, ifeq_f, ifm_f, ifm_t, if_true, if_false, hf, up2_s, up2_r, up2_n, upA_s, upA_r, pk_us, pk_un, cpy_n]
  refine ⟨_, rfl, ⟨fun i j c => ?_, fun j hj => ?_⟩, fun j => ?_, ?_⟩
  · unfold core at c
    by_cases k : i = 0
    · subst k; rw [up2_n (by omega), upA_r (by decide)]
    · rw [up2_r k, upA_r (by omega)]
  · rw [up2_r (by decide), upA_s]
    have := h1 j hj
    rwa [Nat.zero_add] at this
  · rw [up2_r (by decide), upA_r (by decide)]
  · rw [up2_s]
theorem r_putBack {mM g : GS} (h : bks mM g) : ∃ m', MX5_putBack g = some m' ∧ fFs mM m' := by
  obtain ⟨f', hf, h1, h2⟩ := r_copy (n1 := 19) (n2 := 19) (a := 0) (b := 0) (f1 := g 9) (f2 := g 8) (by decide) (by decide) (by decide) (by decide)
  unfold MX5_putBack
  simp (disch := omega) only [nm, jn0, jn1, jn2, jn3, jn4, jn5, bnd1_s, bnd2_s, bnd3_s, bnd4_s, lit_n, neg1, chkI_n, chkZ_n, chkC_n, bI_B, chkB_0, chkB_1, bI_t, bI_f, clamp_n, nI_add, subn, remn2, nat_rem, divn, pk_mul, ifle_t, ifle_f, iflt_t, iflt_f, ifeq_t, ifeq_f, ifm_f, ifm_t, if_true, if_false, hf, up2_s, up2_r, up2_n, upA_s, upA_r, pk_us, pk_un, cpy_n]
  refine ⟨_, rfl, ⟨fun i j c => ?_, fun j hj => ?_⟩⟩
  · have := h.1 i j c
    unfold core at c
    rw [upA_r (by omega)]; exact this
  · rw [upA_s]
    have := h1 j hj
    rw [Nat.zero_add] at this
    rw [this, h.2 j hj]
/-! arguments -/
theorem arg (x : Int32) : x < 0 ∨ ∃ k, k < 2147483648 ∧ x = nI k := by
  by_cases c : x < 0
  · exact Or.inl c
  · obtain ⟨k, h, e⟩ := nI_of c
    exact Or.inr ⟨k, by simpa using h, e⟩
theorem ifneg {β : Type} {i : Int32} {k : Nat} {x y : β} {d : Decidable (i < nI k)} (h : i < 0) (hk : k < 2147483648) : @ite _ (i < nI k) d x y = x := if_pos (by
  rw [Int32.lt_iff_toInt_lt] at h ⊢
  rw [nI_toInt (by simpa using hk)]
  have : (0 : Int32).toInt = 0 := rfl
  omega)
theorem ifneg0 {β : Type} {i : Int32} {k : Nat} {x y : β} {d : Decidable (nI k ≤ i)} (h : i < 0) (hk : k < 2147483648) : @ite _ (nI k ≤ i) d x y = y := if_neg (by
  intro z
  rw [Int32.lt_iff_toInt_lt] at h
  rw [Int32.le_iff_toInt_le, nI_toInt (by simpa using hk)] at z
  have : (0 : Int32).toInt = 0 := rfl
  omega)
theorem ifnegE {β : Type} {i : Int32} {k : Nat} {x y : β} {d : Decidable (i = nI k)} (h : i < 0) (hk : k < 2147483648) : @ite _ (i = nI k) d x y = y := if_neg (by
  intro z
  subst z
  exact nI_pos (by simpa using hk) h)
theorem r_in {k lo hi : Nat} (hk : k < 2147483648) (hlo : lo < 2147483648) (hhi : hi < 2147483648) : MX5_in (nI k) (nI lo) (nI hi) = some (bI (decide (lo ≤ k ∧ k ≤ hi))) := by
  unfold MX5_in
  by_cases a : k < lo
  · rw [decide_eq_false (by omega)]; simp (disch := omega) only [nm, jn0, jn1, jn2, jn3, jn4, jn5, bnd1_s, bnd2_s, bnd3_s, bnd4_s, lit_n, neg1, chkI_n, chkZ_n, chkC_n, bI_B, chkB_0, chkB_1, bI_t, bI_f, clamp_n, nI_add, subn, remn2, nat_rem, divn, pk_mul, ifle_t, ifle_f, iflt_t, iflt_f, ifeq_t, ifeq_f, ifm_f, ifm_t, if_true, if_false]
  · by_cases b : hi < k
    · rw [decide_eq_false (by omega)]; simp (disch := omega) only [nm, jn0, jn1, jn2, jn3, jn4, jn5, bnd1_s, bnd2_s, bnd3_s, bnd4_s, lit_n, neg1, chkI_n, chkZ_n, chkC_n, bI_B, chkB_0, chkB_1, bI_t, bI_f, clamp_n, nI_add, subn, remn2, nat_rem, divn, pk_mul, ifle_t, ifle_f, iflt_t, iflt_f, ifeq_t, ifeq_f, ifm_f, ifm_t, if_true, if_false]
    · rw [decide_eq_true (by omega)]; simp (disch := omega) only [nm, jn0, jn1, jn2, jn3, jn4, jn5, bnd1_s, bnd2_s, bnd3_s, bnd4_s, lit_n, neg1, chkI_n, chkZ_n, chkC_n, bI_B, chkB_0, chkB_1, bI_t, bI_f, clamp_n, nI_add, subn, remn2, nat_rem, divn, pk_mul, ifle_t, ifle_f, iflt_t, iflt_f, ifeq_t, ifeq_f, ifm_f, ifm_t, if_true, if_false]
theorem r_inN {i hi : Int32} {lo : Nat} (h : i < 0) (hlo : lo < 2147483648) : MX5_in i (nI lo) hi = some (nI 0) := by
  unfold MX5_in
  simp (disch := omega) only [nm, jn0, jn1, jn2, jn3, jn4, jn5, bnd1_s, bnd2_s, bnd3_s, bnd4_s, lit_n, neg1, chkI_n, chkZ_n, chkC_n, bI_B, chkB_0, chkB_1, bI_t, bI_f, clamp_n, nI_add, subn, remn2, nat_rem, divn, pk_mul, ifle_t, ifle_f, iflt_t, iflt_f, ifeq_t, ifeq_f, ifm_f, ifm_t, if_true, if_false, ifneg h hlo]
/-- a number of the class's, of the reference's: a house, or refused -/
theorem isHouse_c {tT mM : GS} {T : NN} (hT : RT tT T) (hI : IT T) (hM : RM mM T) (i : Int32) : (MX4_isHouse tT i = some (nI 0) ∧ MX5_isHouse mM i = some (nI 0)) ∨ ∃ h, h < T 0 1 ∧ i = nI h ∧ MX4_isHouse tT i = some (nI 1) ∧ MX5_isHouse mM i = some (nI 1) := by
  have i2 := hI.1.2.2.1
  have t1 := hT.1.2.1
  have m1 := hM.1.2.1
  unfold MX4_isHouse MX5_isHouse MX5_in
  rcases arg i with h | ⟨k, hk, rfl⟩
  · left
    have h0 : i < nI 0 := h
    simp (disch := omega) only [nm, jn0, jn1, jn2, jn3, jn4, jn5, bnd1_s, bnd2_s, bnd3_s, bnd4_s, lit_n, neg1, chkI_n, chkZ_n, chkC_n, bI_B, chkB_0, chkB_1, bI_t, bI_f, clamp_n, nI_add, subn, remn2, nat_rem, divn, pk_mul, ifle_t, ifle_f, iflt_t, iflt_f, ifeq_t, ifeq_f, ifm_f, ifm_t, if_true, if_false, ifneg h]
    exact ⟨trivial, trivial⟩
  · by_cases c : k < T 0 1
    · right
      refine ⟨k, c, rfl, ?_⟩
      simp (disch := omega) only [nm, jn0, jn1, jn2, jn3, jn4, jn5, bnd1_s, bnd2_s, bnd3_s, bnd4_s, lit_n, neg1, chkI_n, chkZ_n, chkC_n, bI_B, chkB_0, chkB_1, bI_t, bI_f, clamp_n, nI_add, subn, remn2, nat_rem, divn, pk_mul, ifle_t, ifle_f, iflt_t, iflt_f, ifeq_t, ifeq_f, ifm_f, ifm_t, if_true, if_false, t1, m1]
      exact ⟨trivial, trivial⟩
    · left
      by_cases z : 1 ≤ T 0 1
      · simp (disch := omega) only [nm, jn0, jn1, jn2, jn3, jn4, jn5, bnd1_s, bnd2_s, bnd3_s, bnd4_s, lit_n, neg1, chkI_n, chkZ_n, chkC_n, bI_B, chkB_0, chkB_1, bI_t, bI_f, clamp_n, nI_add, subn, remn2, nat_rem, divn, pk_mul, ifle_t, ifle_f, iflt_t, iflt_f, ifeq_t, ifeq_f, ifm_f, ifm_t, if_true, if_false, t1, m1]
        exact ⟨trivial, trivial⟩
      · have e : T 0 1 = 0 := by omega
        rw [t1, m1, e]
        simp (disch := omega) only [nm, jn0, jn1, jn2, jn3, jn4, jn5, bnd1_s, bnd2_s, bnd3_s, bnd4_s, lit_n, neg1, chkI_n, chkZ_n, chkC_n, bI_B, chkB_0, chkB_1, bI_t, bI_f, clamp_n, nI_add, subn, remn2, nat_rem, divn, pk_mul, ifle_t, ifle_f, iflt_t, iflt_f, ifeq_t, ifeq_f, ifm_f, ifm_t, if_true, if_false]
        have : (nI 0 - nI 1 : Int32) < nI k := by
          rw [Int32.lt_iff_toInt_lt, nI_toInt (by simpa using hk)]
          have : (nI 0 - nI 1 : Int32).toInt = -1 := by decide
          omega
        simp only [this, if_true]
        simp (disch := omega) only [nm, jn0, jn1, jn2, jn3, jn4, jn5, bnd1_s, bnd2_s, bnd3_s, bnd4_s, lit_n, neg1, chkI_n, chkZ_n, chkC_n, bI_B, chkB_0, chkB_1, bI_t, bI_f, clamp_n, nI_add, subn, remn2, nat_rem, divn, pk_mul, ifle_t, ifle_f, iflt_t, iflt_f, ifeq_t, ifeq_f, ifm_f, ifm_t, if_true, if_false]
        exact ⟨trivial, trivial⟩
theorem isPlot_c {tT mM : GS} {T : NN} (hT : RT tT T) (hI : IT T) (hM : RM mM T) (i : Int32) : (MX4_isPlot tT i = some (nI 0) ∧ MX5_isPlot mM i = some (nI 0)) ∨ ∃ h, h < T 0 0 ∧ i = nI h ∧ MX4_isPlot tT i = some (nI 1) ∧ MX5_isPlot mM i = some (nI 1) := by
  have i1 := hI.1.2.1
  have i0 := hI.1.1
  have t1 := hT.1.1
  have m1 := hM.1.1
  unfold MX4_isPlot MX5_isPlot MX5_in
  rcases arg i with h | ⟨k, hk, rfl⟩
  · left
    simp (disch := omega) only [nm, jn0, jn1, jn2, jn3, jn4, jn5, bnd1_s, bnd2_s, bnd3_s, bnd4_s, lit_n, neg1, chkI_n, chkZ_n, chkC_n, bI_B, chkB_0, chkB_1, bI_t, bI_f, clamp_n, nI_add, subn, remn2, nat_rem, divn, pk_mul, ifle_t, ifle_f, iflt_t, iflt_f, ifeq_t, ifeq_f, ifm_f, ifm_t, if_true, if_false, ifneg h]
    exact ⟨trivial, trivial⟩
  · by_cases c : k < T 0 0
    · right
      refine ⟨k, c, rfl, ?_⟩
      simp (disch := omega) only [nm, jn0, jn1, jn2, jn3, jn4, jn5, bnd1_s, bnd2_s, bnd3_s, bnd4_s, lit_n, neg1, chkI_n, chkZ_n, chkC_n, bI_B, chkB_0, chkB_1, bI_t, bI_f, clamp_n, nI_add, subn, remn2, nat_rem, divn, pk_mul, ifle_t, ifle_f, iflt_t, iflt_f, ifeq_t, ifeq_f, ifm_f, ifm_t, if_true, if_false, t1, m1]
      exact ⟨trivial, trivial⟩
    · left
      simp (disch := omega) only [nm, jn0, jn1, jn2, jn3, jn4, jn5, bnd1_s, bnd2_s, bnd3_s, bnd4_s, lit_n, neg1, chkI_n, chkZ_n, chkC_n, bI_B, chkB_0, chkB_1, bI_t, bI_f, clamp_n, nI_add, subn, remn2, nat_rem, divn, pk_mul, ifle_t, ifle_f, iflt_t, iflt_f, ifeq_t, ifeq_f, ifm_f, ifm_t, if_true, if_false, t1, m1]
      exact ⟨trivial, trivial⟩
