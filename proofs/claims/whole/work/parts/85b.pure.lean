/-! ===== mends ===== -/
theorem stN_t {T : NN} {i : Nat} : ∀ {n : Nat}, (stN T n).testBit i = decide (i < n ∧ T 2 i = 2) := by
  intro n
  induction n with
  | zero => simp [stN]
  | succ n ih =>
    unfold stN
    by_cases c : T 2 n = 2
    · rw [if_pos c, Nat.testBit_or, ih, Nat.testBit_two_pow]
      by_cases d : n = i
      · subst d; simp [c]
      · have : (i < n + 1) = (i < n) := by apply propext; omega
        simp [d, this]
    · rw [if_neg c, ih]
      by_cases d : n = i
      · subst d; simp [c]
      · have : (i < n + 1) = (i < n) := by apply propext; omega
        simp [this]
theorem stN_lt {T : NN} : ∀ {n : Nat}, stN T n < 2 ^ n := by
  intro n
  induction n with
  | zero => exact Nat.zero_lt_one
  | succ n ih =>
    have h1 : 2 ^ n < 2 ^ (n + 1) := two_lt (by omega)
    unfold stN
    split
    · exact or_lt (by omega) h1
    · omega
def cs (s : Nat) : Nat → Nat
  | 0 => 0
  | n + 1 => cs s n + (bif s.testBit n then 1 + n else 0)
theorem cs_le {s : Nat} : ∀ {n : Nat}, n ≤ 8 → cs s n ≤ 8 * n := by
  intro n
  induction n with
  | zero => intro _; exact Nat.le_refl _
  | succ n ih =>
    intro h
    have := ih (by omega)
    unfold cs
    cases s.testBit n
    · simp only [cond_false]; omega
    · simp only [cond_true]; omega
theorem cs_ge {s n : Nat} (h : s < 2 ^ n) : ∀ {k : Nat}, cs s (n + k) = cs s n := by
  intro k
  induction k with
  | zero => rfl
  | succ k ih =>
    show cs s (n + k) + (bif s.testBit (n + k) then 1 + (n + k) else 0) = _
    rw [ih, Nat.testBit_lt_two_pow (Nat.lt_of_lt_of_le h (Nat.pow_le_pow_right (by decide) (by omega)))]
    rfl
/-- whether two come to be beside one another within t nights, the set taken as narrow -/
def mtM (T S : NN) (a b t s : Nat) : Bool := (fst1 (fun t => mts T (nights (mk T s) (T 0 4) S t 1) a b 0) (t + 1)).isSome
def bsM (T S : NN) (a b t : Nat) : Nat → Option Nat
  | 0 => none
  | i + 1 => match bsM T S a b t i with
    | none => if anN i (stN T (T 0 1)) = 0 ∧ mtM T S a b t i = true then some i else none
    | some s => if anN i (stN T (T 0 1)) = 0 ∧ cs i 8 < cs s 8 ∧ mtM T S a b t i = true then some i else some s
theorem bsM_lt {T S : NN} {a b t : Nat} : ∀ {n s : Nat}, bsM T S a b t n = some s → s < n := by
  intro n
  induction n with
  | zero => intro s h; cases h
  | succ n ih =>
    intro s h
    unfold bsM at h
    cases e : bsM T S a b t n with
    | none =>
      rw [e] at h
      by_cases c : anN n (stN T (T 0 1)) = 0 ∧ mtM T S a b t n = true
      · simp only [if_pos c, Option.some.injEq] at h; omega
      · simp only [if_neg c] at h; cases h
    | some v =>
      rw [e] at h
      have := ih e
      by_cases c : anN n (stN T (T 0 1)) = 0 ∧ cs n 8 < cs v 8 ∧ mtM T S a b t n = true
      · simp only [if_pos c, Option.some.injEq] at h; omega
      · simp only [if_neg c, Option.some.injEq] at h; omega
theorem an_ge {T : NN} {i : Nat} (h : 2 ^ T 0 1 ≤ i) : anN i (stN T (T 0 1)) ≠ 0 := by
  obtain ⟨j, hj, hb⟩ := Nat.exists_ge_and_testBit_of_ge_two_pow h
  intro z
  have := anN_t (a := i) (b := stN T (T 0 1)) (i := j)
  rw [z, hb, stN_t] at this
  simp at this
  omega
theorem bsM_ge {T S : NN} {a b t : Nat} : ∀ {k : Nat}, bsM T S a b t (2 ^ T 0 1 + k) = bsM T S a b t (2 ^ T 0 1) := by
  intro k
  induction k with
  | zero => rfl
  | succ k ih =>
    have hz := an_ge (T := T) (i := 2 ^ T 0 1 + k) (by omega)
    show (match bsM T S a b t (2 ^ T 0 1 + k) with
      | none => if anN (2 ^ T 0 1 + k) (stN T (T 0 1)) = 0 ∧ mtM T S a b t (2 ^ T 0 1 + k) = true then some (2 ^ T 0 1 + k) else none
      | some s => if anN (2 ^ T 0 1 + k) (stN T (T 0 1)) = 0 ∧ cs (2 ^ T 0 1 + k) 8 < cs s 8 ∧ mtM T S a b t (2 ^ T 0 1 + k) = true then some (2 ^ T 0 1 + k) else some s) = _
    rw [ih]
    cases bsM T S a b t (2 ^ T 0 1) with
    | none => simp [hz]
    | some s => simp [hz]
theorem p_costOf {s : Nat} (hs : s < 256) : MX4_costOf (nI s) = some (nI (cs s 8)) := by
  unfold MX4_costOf jn1
  refine lq2_run (fun i => nI (cs s i)) nI 8 _ ?_ ?_ FU (FU_lt (by omega))
  · intro i hi rec
    have hb := bit_n (a := s) (q := i) (by omega) (by omega)
    unfold BX4_costOf_4
    show _ = rec (nI (cs s i + (bif s.testBit i then 1 + i else 0))) _
    cases k : s.testBit i with
    | true =>
      rw [k] at hb
      simp (disch := omega) only [nm, jn0, jn1, jn2, jn3, jn4, jn5, bnd1_s, bnd2_s, bnd3_s, bnd4_s, lit_n, neg1, chkI_n, chkZ_n, chkC_n, bI_B, chkB_0, chkB_1, bI_t, bI_f, clamp_n, nI_add, subn, remn2, nat_rem, divn, pk_mul, ifle_t, ifle_f, iflt_t, iflt_f, ifeq_t, ifeq_f, ifm_f, ifm_t, if_true, if_false, hb, cond_true]
    | false =>
      rw [k] at hb
      simp (disch := omega) only [nm, jn0, jn1, jn2, jn3, jn4, jn5, bnd1_s, bnd2_s, bnd3_s, bnd4_s, lit_n, neg1, chkI_n, chkZ_n, chkC_n, bI_B, chkB_0, chkB_1, bI_t, bI_f, clamp_n, nI_add, subn, remn2, nat_rem, divn, pk_mul, ifle_t, ifle_f, iflt_t, iflt_f, ifeq_t, ifeq_f, ifm_f, ifm_t, if_true, if_false, hb, cond_false, Nat.add_zero]
  · intro rec
    unfold BX4_costOf_4
    simp (disch := omega) only [nm, jn0, jn1, jn2, jn3, jn4, jn5, bnd1_s, bnd2_s, bnd3_s, bnd4_s, lit_n, neg1, chkI_n, chkZ_n, chkC_n, bI_B, chkB_0, chkB_1, bI_t, bI_f, clamp_n, nI_add, subn, remn2, nat_rem, divn, pk_mul, ifle_t, ifle_f, iflt_t, iflt_f, ifeq_t, ifeq_f, ifm_f, ifm_t, if_true, if_false]
abbrev mtO (T S : NN) (a b t s : Nat) : Option Nat := fst1 (fun t => mts T (nights (mk T s) (T 0 4) S t 1) a b 0) (t + 1)
theorem mtO_t {T S : NN} {a b t s : Nat} (h : mtM T S a b t s = true) : ∃ v, mtO T S a b t s = some v ∧ v < t + 1 := by
  have h' : (mtO T S a b t s).isSome = true := h
  cases z : mtO T S a b t s with
  | none => rw [z] at h'; cases h'
  | some v => exact ⟨v, rfl, fst1_lt z⟩
theorem mtO_f {T S : NN} {a b t s : Nat} (h : mtM T S a b t s = false) : mtO T S a b t s = none := by
  have h' : (mtO T S a b t s).isSome = false := h
  cases z : mtO T S a b t s with
  | none => rfl
  | some v => rw [z] at h'; cases h'
theorem p_mM {tT gN mM gA : GS} {T S : NN} (hB : BV tT gN mM T S) (fA : Nat → Int32) {a b t s : Nat} (ha : a < T 0 1) (hb : b < T 0 1) (ht : t ≤ 99) (hs : s < 256) : ∃ g0 g' f', MX1_copyFrom gA gN = some g0 ∧ MX4_firstMeeting tT (up2 g0 0 8 (nI s)) fA (nI a) (nI b) (nI 0) (nI t) = some (oI (mtO T S a b t s), g', f') := by
  obtain ⟨hT, hI, hR, hS, hNb, hM, hN⟩ := hB
  obtain ⟨g0, hc, hcR⟩ := p_copyS (gS := gA) hI hR
  have hR2 : RS (up2 g0 0 8 (nI s)) T S s := by
    obtain ⟨r1, r2, r4, r5, r6, r7, r8⟩ := hcR
    refine ⟨fun h hh => by rw [up2_r (by decide)]; exact r1 h hh, fun h hh => by rw [up2_r (by decide)]; exact r2 h hh, ?_, ?_, ?_, ?_, up2_s⟩
    · rw [up2_n (by decide)]; exact r4
    · rw [up2_n (by decide)]; exact r5
    · rw [up2_n (by decide)]; exact r6
    · rw [up2_n (by decide)]; exact r7
  obtain ⟨g', f', e⟩ := p_firstMeeting hT hI hR2 hS hs hNb ha hb (w := 0) (by decide) (last := t) (by omega) fA
  exact ⟨g0, g', f', hc, e⟩
def bsC (o : Option Nat) : Option Nat := o.map (fun s => cs s 8)
theorem c_mends {tT gN mM : GS} {T S : NN} (hB : BV tT gN mM T S) (gA : GS) (fA : Nat → Int32) {a b t w : Nat} (ha : a < T 0 1) (hb : b < T 0 1) (ht : t ≤ 99) (hw : w ≤ 1) (hp : MX4_refusePair tT (nI a) (nI b) (nI w) = some (nI 0)) : ∃ gA' fA', MX4_mends tT gN gA fA (nI a) (nI b) (nI t) (nI w) = some (if w = 0 then oI (bsC (bsM T S a b t 256)) else oI (bsM T S a b t 256), gA', fA') := by
  have hB' := hB
  obtain ⟨hT, hI, hR, hS, hNb, hM, hN⟩ := hB'
  have i2 := hI.1.2.2.1
  have hst := p_stuckOnes hT hI
  have hsl := stN_lt (T := T) (n := T 0 1)
  have h256 : 2 ^ T 0 1 ≤ 256 := Nat.pow_le_pow_right (n := 2) (by decide) i2
  unfold MX4_mends
  simp (disch := omega) only [nm, jn0, jn1, jn2, jn3, jn4, jn5, bnd1_s, bnd2_s, bnd3_s, bnd4_s, lit_n, neg1, chkI_n, chkZ_n, chkC_n, bI_B, chkB_0, chkB_1, bI_t, bI_f, clamp_n, nI_add, subn, remn2, nat_rem, divn, pk_mul, ifle_t, ifle_f, iflt_t, iflt_f, ifeq_t, ifeq_f, ifm_f, ifm_t, if_true, if_false, hp, hst]
  refine lq5_rel (fun i x y z (g : GS) (f : Nat → Int32) => x = oI (bsM T S a b t i) ∧ y = oI (bsC (bsM T S a b t i)) ∧ z = nI i) 256 (fun r => ∃ gA' fA', r = some (if w = 0 then oI (bsC (bsM T S a b t 256)) else oI (bsM T S a b t 256), gA', fA')) ?_ _ _ _ _ _ ⟨rfl, rfl, rfl⟩ (FU_lt (by omega))
  rintro i x y z g f hi ⟨rfl, rfl, rfl⟩
  by_cases c : i < 256
  · have hcs := p_costOf (s := i) c
    obtain ⟨g0, g', f', hc0, hm⟩ := p_mM (gA := g) hB f ha hb ht (s := i) c
    have hle := cs_le (s := i) (n := 8) (by decide)
    have hstep : bsM T S a b t (i + 1) = match bsM T S a b t i with
      | none => if anN i (stN T (T 0 1)) = 0 ∧ mtM T S a b t i = true then some i else none
      | some s => if anN i (stN T (T 0 1)) = 0 ∧ cs i 8 < cs s 8 ∧ mtM T S a b t i = true then some i else some s := rfl
    have hal : anN i (stN T (T 0 1)) < 2147483648 := by
      have h1 : i &&& stN T (T 0 1) < 2 ^ 8 := Nat.and_lt_two_pow _ (by omega)
      have : anN i (stN T (T 0 1)) < 2 ^ 8 := Nat.xor_lt_two_pow (by omega) h1
      omega
    cases e : bsM T S a b t i with
    | none =>
      rw [e] at hstep
      by_cases k1 : anN i (stN T (T 0 1)) = 0
      · cases k2 : mtM T S a b t i with
        | true =>
          obtain ⟨v, z, hv⟩ := mtO_t k2
          rw [z] at hm
          have e2 : bsM T S a b t (i + 1) = some i := by rw [hstep]; simp [k1, k2]
          refine Or.inl ⟨c, nI i, nI (cs i 8), nI (i + 1), g', f', ⟨by rw [e2]; rfl, by rw [e2]; rfl, rfl⟩, fun rec => ?_⟩
          unfold BX4_mends_49
          simp (disch := omega) only [nm, jn0, jn1, jn2, jn3, jn4, jn5, bnd1_s, bnd2_s, bnd3_s, bnd4_s, lit_n, neg1, chkI_n, chkZ_n, chkC_n, bI_B, chkB_0, chkB_1, bI_t, bI_f, clamp_n, nI_add, subn, remn2, nat_rem, divn, pk_mul, ifle_t, ifle_f, iflt_t, iflt_f, ifeq_t, ifeq_f, ifm_f, ifm_t, if_true, if_false, hcs, oI, bsC, Option.map_none, andnot, k1, hc0, hm]
        | false =>
          rw [mtO_f k2] at hm
          have e2 : bsM T S a b t (i + 1) = none := by rw [hstep]; simp [k2]
          refine Or.inl ⟨c, mI, mI, nI (i + 1), g', f', ⟨by rw [e2]; rfl, by rw [e2]; rfl, rfl⟩, fun rec => ?_⟩
          unfold BX4_mends_49
          simp (disch := omega) only [nm, jn0, jn1, jn2, jn3, jn4, jn5, bnd1_s, bnd2_s, bnd3_s, bnd4_s, lit_n, neg1, chkI_n, chkZ_n, chkC_n, bI_B, chkB_0, chkB_1, bI_t, bI_f, clamp_n, nI_add, subn, remn2, nat_rem, divn, pk_mul, ifle_t, ifle_f, iflt_t, iflt_f, ifeq_t, ifeq_f, ifm_f, ifm_t, if_true, if_false, hcs, oI, bsC, Option.map_none, andnot, k1, hc0, hm]
      · have e2 : bsM T S a b t (i + 1) = none := by rw [hstep]; simp [k1]
        refine Or.inl ⟨c, mI, mI, nI (i + 1), g, f, ⟨by rw [e2]; rfl, by rw [e2]; rfl, rfl⟩, fun rec => ?_⟩
        unfold BX4_mends_49
        simp (disch := omega) only [nm, jn0, jn1, jn2, jn3, jn4, jn5, bnd1_s, bnd2_s, bnd3_s, bnd4_s, lit_n, neg1, chkI_n, chkZ_n, chkC_n, bI_B, chkB_0, chkB_1, bI_t, bI_f, clamp_n, nI_add, subn, remn2, nat_rem, divn, pk_mul, ifle_t, ifle_f, iflt_t, iflt_f, ifeq_t, ifeq_f, ifm_f, ifm_t, if_true, if_false, hcs, oI, bsC, Option.map_none, andnot]
    | some s =>
      rw [e] at hstep
      have hs := bsM_lt e
      have hle2 := cs_le (s := s) (n := 8) (by decide)
      by_cases k1 : anN i (stN T (T 0 1)) = 0
      · by_cases k3 : cs i 8 < cs s 8
        · cases k2 : mtM T S a b t i with
          | true =>
            obtain ⟨v, z, hv⟩ := mtO_t k2
            rw [z] at hm
            have e2 : bsM T S a b t (i + 1) = some i := by rw [hstep]; simp [k1, k2, k3]
            refine Or.inl ⟨c, nI i, nI (cs i 8), nI (i + 1), g', f', ⟨by rw [e2]; rfl, by rw [e2]; rfl, rfl⟩, fun rec => ?_⟩
            unfold BX4_mends_49
            simp (disch := omega) only [nm, jn0, jn1, jn2, jn3, jn4, jn5, bnd1_s, bnd2_s, bnd3_s, bnd4_s, lit_n, neg1, chkI_n, chkZ_n, chkC_n, bI_B, chkB_0, chkB_1, bI_t, bI_f, clamp_n, nI_add, subn, remn2, nat_rem, divn, pk_mul, ifle_t, ifle_f, iflt_t, iflt_f, ifeq_t, ifeq_f, ifm_f, ifm_t, if_true, if_false, hcs, oI, bsC, Option.map_some, andnot, k1, hc0, hm]
          | false =>
            rw [mtO_f k2] at hm
            have e2 : bsM T S a b t (i + 1) = some s := by rw [hstep]; simp [k2]
            refine Or.inl ⟨c, nI s, nI (cs s 8), nI (i + 1), g', f', ⟨by rw [e2]; rfl, by rw [e2]; rfl, rfl⟩, fun rec => ?_⟩
            unfold BX4_mends_49
            simp (disch := omega) only [nm, jn0, jn1, jn2, jn3, jn4, jn5, bnd1_s, bnd2_s, bnd3_s, bnd4_s, lit_n, neg1, chkI_n, chkZ_n, chkC_n, bI_B, chkB_0, chkB_1, bI_t, bI_f, clamp_n, nI_add, subn, remn2, nat_rem, divn, pk_mul, ifle_t, ifle_f, iflt_t, iflt_f, ifeq_t, ifeq_f, ifm_f, ifm_t, if_true, if_false, hcs, oI, bsC, Option.map_some, andnot, k1, hc0, hm]
        · have e2 : bsM T S a b t (i + 1) = some s := by rw [hstep]; simp [k3]
          refine Or.inl ⟨c, nI s, nI (cs s 8), nI (i + 1), g, f, ⟨by rw [e2]; rfl, by rw [e2]; rfl, rfl⟩, fun rec => ?_⟩
          unfold BX4_mends_49
          simp (disch := omega) only [nm, jn0, jn1, jn2, jn3, jn4, jn5, bnd1_s, bnd2_s, bnd3_s, bnd4_s, lit_n, neg1, chkI_n, chkZ_n, chkC_n, bI_B, chkB_0, chkB_1, bI_t, bI_f, clamp_n, nI_add, subn, remn2, nat_rem, divn, pk_mul, ifle_t, ifle_f, iflt_t, iflt_f, ifeq_t, ifeq_f, ifm_f, ifm_t, if_true, if_false, hcs, oI, bsC, Option.map_some, andnot, k1]
      · have e2 : bsM T S a b t (i + 1) = some s := by rw [hstep]; simp [k1]
        refine Or.inl ⟨c, nI s, nI (cs s 8), nI (i + 1), g, f, ⟨by rw [e2]; rfl, by rw [e2]; rfl, rfl⟩, fun rec => ?_⟩
        unfold BX4_mends_49
        by_cases k3 : cs i 8 < cs s 8
        · simp (disch := omega) only [nm, jn0, jn1, jn2, jn3, jn4, jn5, bnd1_s, bnd2_s, bnd3_s, bnd4_s, lit_n, neg1, chkI_n, chkZ_n, chkC_n, bI_B, chkB_0, chkB_1, bI_t, bI_f, clamp_n, nI_add, subn, remn2, nat_rem, divn, pk_mul, ifle_t, ifle_f, iflt_t, iflt_f, ifeq_t, ifeq_f, ifm_f, ifm_t, if_true, if_false, hcs, oI, bsC, Option.map_some, andnot]
        · simp (disch := omega) only [nm, jn0, jn1, jn2, jn3, jn4, jn5, bnd1_s, bnd2_s, bnd3_s, bnd4_s, lit_n, neg1, chkI_n, chkZ_n, chkC_n, bI_B, chkB_0, chkB_1, bI_t, bI_f, clamp_n, nI_add, subn, remn2, nat_rem, divn, pk_mul, ifle_t, ifle_f, iflt_t, iflt_f, ifeq_t, ifeq_f, ifm_f, ifm_t, if_true, if_false, hcs, oI, bsC, Option.map_some, andnot]
  · have : i = 256 := by omega
    subst this
    refine Or.inr ⟨_, ⟨g, f, rfl⟩, fun rec => ?_⟩
    unfold BX4_mends_49
    by_cases k : w = 0
    · simp (disch := omega) only [nm, jn0, jn1, jn2, jn3, jn4, jn5, bnd1_s, bnd2_s, bnd3_s, bnd4_s, lit_n, neg1, chkI_n, chkZ_n, chkC_n, bI_B, chkB_0, chkB_1, bI_t, bI_f, clamp_n, nI_add, subn, remn2, nat_rem, divn, pk_mul, ifle_t, ifle_f, iflt_t, iflt_f, ifeq_t, ifeq_f, ifm_f, ifm_t, if_true, if_false, if_pos k]
    · simp (disch := omega) only [nm, jn0, jn1, jn2, jn3, jn4, jn5, bnd1_s, bnd2_s, bnd3_s, bnd4_s, lit_n, neg1, chkI_n, chkZ_n, chkC_n, bI_B, chkB_0, chkB_1, bI_t, bI_f, clamp_n, nI_add, subn, remn2, nat_rem, divn, pk_mul, ifle_t, ifle_f, iflt_t, iflt_f, ifeq_t, ifeq_f, ifm_f, ifm_t, if_true, if_false, if_neg k]
/-! mends, the reference -/
theorem r_mend {mM : GS} {T : NN} {s v : Nat} (h2 : mM 0 2 = nI (T 0 1)) (hn : T 0 1 ≤ 8) (hs : s < 256) : ∃ m', MX5_mend mM (nI s) (nI v) = some m' ∧ (∀ i j, i ≠ 2 → m' i j = mM i j) ∧ ∀ j, m' 2 j = if j < T 0 1 ∧ s.testBit j = true then nI v else mM 2 j := by
  unfold MX5_mend jn1
  refine lq2_rel (fun i x (g : GS) => x = nI i ∧ (∀ a j, a ≠ 2 → g a j = mM a j) ∧ ∀ j, g 2 j = if j < i ∧ s.testBit j = true then nI v else mM 2 j) (T 0 1) (fun r => ∃ m' : GS, r = some m' ∧ (∀ i j, i ≠ 2 → m' i j = mM i j) ∧ ∀ j, m' 2 j = if j < T 0 1 ∧ s.testBit j = true then nI v else mM 2 j) ?_ _ _ ⟨rfl, fun a j _ => rfl, fun j => by simp⟩ (FU_lt (by omega))
  rintro i x g hi ⟨rfl, h1, h3⟩
  have g2 : g 0 2 = nI (T 0 1) := by rw [h1 0 2 (by decide)]; exact h2
  by_cases c : i < T 0 1
  · have hh := r_has (s := s) (k := i) (by omega) (by omega)
    have hrow : ∀ (val : Int32) (o : Bool), s.testBit i = o → (val = if o = true then nI v else g 2 i) → (∀ a j, a ≠ 2 → (upA g 2 (upd (g 2) i val)) a j = mM a j) ∧ ∀ j, (upA g 2 (upd (g 2) i val)) 2 j = if j < i + 1 ∧ s.testBit j = true then nI v else mM 2 j := by
      intro val o ho hv
      refine ⟨fun a j k => by rw [upA_r k]; exact h1 a j k, fun j => ?_⟩
      rw [upA_s]
      by_cases z : j = i
      · subst z
        rw [pk_us, hv, h3, ho]
        cases o <;> simp
      · rw [pk_un z, h3]
        have : (j < i + 1) = (j < i) := by apply propext; omega
        simp only [this]
    cases k : s.testBit i with
    | true =>
      rw [k] at hh
      obtain ⟨q1, q2⟩ := hrow (nI v) true k rfl
      refine Or.inl ⟨c, nI (i + 1), upA g 2 (upd (g 2) i (nI v)), ⟨rfl, q1, q2⟩, fun rec => ?_⟩
      unfold BX5_mend_2
      simp (disch := omega) only [nm, jn0, jn1, jn2, jn3, jn4, jn5, bnd1_s, bnd2_s, bnd3_s, bnd4_s, lit_n, neg1, chkI_n, chkZ_n, chkC_n, bI_B, chkB_0, chkB_1, bI_t, bI_f, clamp_n, nI_add, subn, remn2, nat_rem, divn, pk_mul, ifle_t, ifle_f, iflt_t, iflt_f, ifeq_t, ifeq_f, ifm_f, ifm_t, if_true, if_false, g2, hh]
    | false =>
      rw [k] at hh
      obtain ⟨q1, q2⟩ := hrow (g 2 i) false k rfl
      refine Or.inl ⟨c, nI (i + 1), upA g 2 (upd (g 2) i (g 2 i)), ⟨rfl, q1, q2⟩, fun rec => ?_⟩
      unfold BX5_mend_2
      simp (disch := omega) only [nm, jn0, jn1, jn2, jn3, jn4, jn5, bnd1_s, bnd2_s, bnd3_s, bnd4_s, lit_n, neg1, chkI_n, chkZ_n, chkC_n, bI_B, chkB_0, chkB_1, bI_t, bI_f, clamp_n, nI_add, subn, remn2, nat_rem, divn, pk_mul, ifle_t, ifle_f, iflt_t, iflt_f, ifeq_t, ifeq_f, ifm_f, ifm_t, if_true, if_false, g2, hh]
  · have : i = T 0 1 := by omega
    subst this
    refine Or.inr ⟨_, ⟨g, rfl, h1, h3⟩, fun rec => ?_⟩
    unfold BX5_mend_2
    simp (disch := omega) only [nm, jn0, jn1, jn2, jn3, jn4, jn5, bnd1_s, bnd2_s, bnd3_s, bnd4_s, lit_n, neg1, chkI_n, chkZ_n, chkC_n, bI_B, chkB_0, chkB_1, bI_t, bI_f, clamp_n, nI_add, subn, remn2, nat_rem, divn, pk_mul, ifle_t, ifle_f, iflt_t, iflt_f, ifeq_t, ifeq_f, ifm_f, ifm_t, if_true, if_false, g2]
theorem r_doMeet {mM : GS} {T S : NN} {s : Nat} (hI : IT T) (hS : IS T S) (hNb : S 0 5 ≤ 9999) (hM : RM mM (mk T s)) (hN : RN mM (mk T s) S) {a b t : Nat} (ha : a < T 0 1) (hb : b < T 0 1) (ht : t ≤ 99) : ∃ m', MX5_doMeet mM (nI a) (nI b) (nI t) = some (bI (mtM T S a b t s), m') ∧ fFs mM m' := by
  have hI' : IT (mk T s) := IT_mk hI
  have hS' : IS (mk T s) S := IS_mk.mpr hS
  have n1 : mk T s 0 1 = T 0 1 := mk_r (by decide)
  have n4 : mk T s 0 4 = T 0 4 := mk_r (by decide)
  have i3 := hI.1.2.2.2.2.2.1
  obtain ⟨m1, a1, a2, a3, a4⟩ := r_putAside mM
  have g0 := gone_0 hI' hM hN a2 a3 a4
  rw [n4] at g0
  have bs : ∀ {g : GS} {k : Nat}, gone mM g (mk T s) S (T 0 4) k → MX5_areBeside g (nI a) (nI b) = some (bI (mts T (nights (mk T s) (T 0 4) S k 1) a b 0)) := by
    intro g k hg
    have := r_areBeside hg.2.1 hI' hg.2.2.1.1 (nights_IS hI' hS').1 (a := a) (b := b) (by omega) (by omega)
    rw [mk_bes] at this
    exact this
  have b0 := bs g0
  unfold MX5_doMeet
  simp (disch := omega) only [nm, jn0, jn1, jn2, jn3, jn4, jn5, bnd1_s, bnd2_s, bnd3_s, bnd4_s, lit_n, neg1, chkI_n, chkZ_n, chkC_n, bI_B, chkB_0, chkB_1, bI_t, bI_f, clamp_n, nI_add, subn, remn2, nat_rem, divn, pk_mul, ifle_t, ifle_f, iflt_t, iflt_f, ifeq_t, ifeq_f, ifm_f, ifm_t, if_true, if_false, a1, b0]
  obtain ⟨p, hp⟩ : ∃ p : Nat → Bool, p = fun k => mts T (nights (mk T s) (T 0 4) S k 1) a b 0 := ⟨_, rfl⟩
  have hv : mtM T S a b t s = (fst1 p (t + 1)).isSome := by rw [hp]; rfl
  rw [hv]
  have bs' : ∀ {g : GS} {k : Nat}, gone mM g (mk T s) S (T 0 4) k → MX5_areBeside g (nI a) (nI b) = some (bI (p k)) := fun hg => by rw [hp]; exact bs hg
  refine lq3_rel (fun i x y (g : GS) => x = bI (fst1 p (i + 1)).isSome ∧ y = nI i ∧ gone mM g (mk T s) S (T 0 4) i) t (fun r => ∃ m', r = some (bI (fst1 p (t + 1)).isSome, m') ∧ fFs mM m') ?_ _ _ _ ⟨?_, rfl, g0⟩ (FU_lt (by omega))
  · rintro i x y g hi ⟨rfl, rfl, hg⟩
    obtain ⟨m', p1, p2⟩ := r_putBack hg.1
    by_cases c : i < t
    · cases e : fst1 p (i + 1) with
      | some v =>
        have e2 := fst1_mono (m := t + 1) e (by omega)
        refine Or.inr ⟨_, ⟨m', rfl, p2⟩, fun rec => ?_⟩
        unfold BX5_doMeet_15
        rw [e2]
        simp (disch := omega) only [nm, jn0, jn1, jn2, jn3, jn4, jn5, bnd1_s, bnd2_s, bnd3_s, bnd4_s, lit_n, neg1, chkI_n, chkZ_n, chkC_n, bI_B, chkB_0, chkB_1, bI_t, bI_f, clamp_n, nI_add, subn, remn2, nat_rem, divn, pk_mul, ifle_t, ifle_f, iflt_t, iflt_f, ifeq_t, ifeq_f, ifm_f, ifm_t, if_true, if_false, p1, Option.isSome_some]
      | none =>
        obtain ⟨g', e1, e2⟩ := gone_s hI' hS' i3 (by omega) hg
        have hb2 := bs' e2
        refine Or.inl ⟨c, bI (p (i + 1)), nI (i + 1), g', ⟨?_, rfl, e2⟩, fun rec => ?_⟩
        · rw [fst1_s0 e]
          cases p (i + 1) <;> rfl
        · unfold BX5_doMeet_15
          simp (disch := omega) only [nm, jn0, jn1, jn2, jn3, jn4, jn5, bnd1_s, bnd2_s, bnd3_s, bnd4_s, lit_n, neg1, chkI_n, chkZ_n, chkC_n, bI_B, chkB_0, chkB_1, bI_t, bI_f, clamp_n, nI_add, subn, remn2, nat_rem, divn, pk_mul, ifle_t, ifle_f, iflt_t, iflt_f, ifeq_t, ifeq_f, ifm_f, ifm_t, if_true, if_false, e1, hb2, Option.isSome_none]
    · have : i = t := by omega
      subst this
      refine Or.inr ⟨_, ⟨m', rfl, p2⟩, fun rec => ?_⟩
      unfold BX5_doMeet_15
      simp (disch := omega) only [nm, jn0, jn1, jn2, jn3, jn4, jn5, bnd1_s, bnd2_s, bnd3_s, bnd4_s, lit_n, neg1, chkI_n, chkZ_n, chkC_n, bI_B, chkB_0, chkB_1, bI_t, bI_f, clamp_n, nI_add, subn, remn2, nat_rem, divn, pk_mul, ifle_t, ifle_f, iflt_t, iflt_f, ifeq_t, ifeq_f, ifm_f, ifm_t, if_true, if_false, p1]
  · rw [fst1_s0 (n := 0) rfl, hp]
    show bI (mts T (nights (mk T s) (T 0 4) S 0 1) a b 0) = bI (if mts T (nights (mk T s) (T 0 4) S 0 1) a b 0 = true then some 0 else none).isSome
    cases mts T (nights (mk T s) (T 0 4) S 0 1) a b 0 <;> rfl
/-- a set of stuck ones mended, tried, and made stuck again -/
theorem r_tryM {mM : GS} {T S : NN} {s : Nat} (hI : IT T) (hS : IS T S) (hNb : S 0 5 ≤ 9999) (hM : RM mM T) (hN : RN mM T S) {a b t : Nat} (ha : a < T 0 1) (hb : b < T 0 1) (ht : t ≤ 99) (hs : s < 256) (hz : anN s (stN T (T 0 1)) = 0) : ∃ m1 m2 m3, MX5_mend mM (nI s) (nI 0) = some m1 ∧ MX5_doMeet m1 (nI a) (nI b) (nI t) = some (bI (mtM T S a b t s), m2) ∧ MX5_mend m2 (nI s) (nI 2) = some m3 ∧ fFs mM m3 := by
  have i2 := hI.1.2.2.1
  have hst : ∀ j, s.testBit j = true → j < T 0 1 ∧ T 2 j = 2 := by
    intro j hj
    have := anN_t (a := s) (b := stN T (T 0 1)) (i := j)
    rw [hz, hj, stN_t] at this
    simpa using this
  obtain ⟨m1, e1, e2, e3⟩ := r_mend (v := 0) hM.1.2.1 i2 hs
  have hM1 : RM m1 (mk T s) := by
    obtain ⟨⟨h0, h1, h2, h3, h4, h5⟩, r1, r2, r3, r4, r5, r6, r7⟩ := hM
    refine ⟨⟨?_, ?_, ?_, ?_, ?_, ?_⟩, fun q hq => ?_, fun q hq => ?_, fun q hq => ?_, fun q hq => ?_, fun q hq => ?_, fun q hq => ?_, fun q hq => ?_⟩
    · rw [e2 _ _ (by decide), mk_r (by decide)]; exact h0
    · rw [e2 _ _ (by decide), mk_r (by decide)]; exact h1
    · rw [e2 _ _ (by decide), mk_r (by decide)]; exact h2
    · rw [e2 _ _ (by decide), mk_r (by decide)]; exact h3
    · rw [e2 _ _ (by decide), mk_r (by decide)]; exact h4
    · rw [e2 _ _ (by decide), mk_r (by decide)]; exact h5
    · rw [e2 _ _ (by decide), mk_r (by decide)]; exact r1 q hq
    · rw [e3]
      unfold mk
      rw [if_pos rfl]
      by_cases k : s.testBit q = true
      · have := hst q k
        rw [if_pos ⟨this.1, k⟩, if_pos ⟨this.2, k⟩]
      · rw [if_neg (fun z => k z.2), if_neg (fun z => k z.2)]; exact r2 q hq
    · rw [e2 _ _ (by decide), mk_r (by decide)]; exact r3 q hq
    · rw [e2 _ _ (by decide), mk_r (by decide)]; exact r4 q hq
    · rw [e2 _ _ (by decide), mk_r (by decide)]; exact r5 q hq
    · rw [e2 _ _ (by decide), mk_r (by decide)]; exact r6 q hq
    · rw [e2 _ _ (by decide), mk_r (by decide)]; exact r7 q hq
  have hN1 : RN m1 (mk T s) S := by
    obtain ⟨r1, r2, r3, r4, r5⟩ := hN
    have n1 : mk T s 0 1 = T 0 1 := mk_r (by decide)
    exact ⟨fun h hh => by rw [e2 _ _ (by decide)]; exact r1 h (by omega), fun h hh => by rw [e2 _ _ (by decide)]; exact r2 h (by omega), by rw [e2 _ _ (by decide)]; exact r3, by rw [e2 _ _ (by decide)]; exact r4, by rw [e2 _ _ (by decide)]; exact r5⟩
  obtain ⟨m2, d1, d2⟩ := r_doMeet hI hS hNb hM1 hN1 ha hb ht
  have g2 : m2 0 2 = nI (T 0 1) := by
    rw [d2.1 0 2 (by simp [core]), e2 0 2 (by decide)]; exact hM.1.2.1
  obtain ⟨m3, f1, f2, f3⟩ := r_mend (v := 2) g2 i2 hs
  refine ⟨m1, m2, m3, e1, d1, f1, fun i j h => ?_, fun j hj => ?_⟩
  · by_cases c : i = 2
    · subst c
      rw [f3]
      by_cases k : j < T 0 1 ∧ s.testBit j = true
      · rw [if_pos k]
        have := hM.2.2.1 j (by omega)
        rw [this, (hst j k.2).2]
      · rw [if_neg k, d2.1 2 j h, e3, if_neg k]
    · rw [f2 i j c, d2.1 i j h, e2 i j c]
  · rw [f2 8 j (by decide), d2.2 j hj, e2 8 j (by decide)]
theorem r_mends {tT gN mM : GS} {T S : NN} (hB : BV tT gN mM T S) {a b t w : Nat} (ha : a < T 0 1) (hb : b < T 0 1) (ht : t ≤ 99) (hw : w ≤ 1) (h1 : MX5_whyNot mM (nI a) (nI b) (nI 1) = some (nI 0)) (h2 : MX5_in (nI w) (nI 0) (nI 1) = some (nI 1)) : ∃ m', MX5_mends mM (nI a) (nI b) (nI t) (nI w) = some (if w = 0 then oI (bsC (bsM T S a b t 256)) else oI (bsM T S a b t 256), m') ∧ fFs mM m' := by
  obtain ⟨hT, hI, hR, hS, hNb, hM, hN⟩ := hB
  have i2 := hI.1.2.2.1
  have hsl := stN_lt (T := T) (n := T 0 1)
  have h256 : 2 ^ T 0 1 ≤ 256 := Nat.pow_le_pow_right (n := 2) (by decide) i2
  have ei := r_in (k := t) (lo := 0) (hi := 99) (by omega) (by decide) (by decide)
  rw [decide_eq_true (by omega)] at ei
  have m02 := hM.1.2.1
  have hend : bsM T S a b t 256 = bsM T S a b t (2 ^ T 0 1) := by
    have := bsM_ge (T := T) (S := S) (a := a) (b := b) (t := t) (k := 256 - 2 ^ T 0 1)
    rwa [show 2 ^ T 0 1 + (256 - 2 ^ T 0 1) = 256 by omega] at this
  rw [hend]
  have stuck : ∀ (k9 : Int32 → Option (Int32 × GS)), lq2 (BX5_mends_47 mM k9) FU (nI 0) (nI 0) = k9 (nI (stN T (T 0 1))) := by
    intro k9
    refine lq2_run (fun i => nI (stN T i)) nI (T 0 1) _ ?_ ?_ FU (FU_lt (by omega))
    · intro i hi rec
      have hk := hM.2.2.1 i (by omega)
      have hkk := hI.2.2.1 i (by omega)
      unfold BX5_mends_47
      by_cases c : T 2 i = 2
      · simp (disch := omega) only [nm, jn0, jn1, jn2, jn3, jn4, jn5, bnd1_s, bnd2_s, bnd3_s, bnd4_s, lit_n, neg1, chkI_n, chkZ_n, chkC_n, bI_B, chkB_0, chkB_1, bI_t, bI_f, clamp_n, nI_add, subn, remn2, nat_rem, divn, pk_mul, ifle_t, ifle_f, iflt_t, iflt_f, ifeq_t, ifeq_f, ifm_f, ifm_t, if_true, if_false, m02, hk, shl_1, fa_or, stN, if_pos c]
      · simp (disch := omega) only [nm, jn0, jn1, jn2, jn3, jn4, jn5, bnd1_s, bnd2_s, bnd3_s, bnd4_s, lit_n, neg1, chkI_n, chkZ_n, chkC_n, bI_B, chkB_0, chkB_1, bI_t, bI_f, clamp_n, nI_add, subn, remn2, nat_rem, divn, pk_mul, ifle_t, ifle_f, iflt_t, iflt_f, ifeq_t, ifeq_f, ifm_f, ifm_t, if_true, if_false, m02, hk, fa_or, stN, if_neg c, Nat.or_zero]
    · intro rec
      unfold BX5_mends_47
      simp (disch := omega) only [nm, jn0, jn1, jn2, jn3, jn4, jn5, bnd1_s, bnd2_s, bnd3_s, bnd4_s, lit_n, neg1, chkI_n, chkZ_n, chkC_n, bI_B, chkB_0, chkB_1, bI_t, bI_f, clamp_n, nI_add, subn, remn2, nat_rem, divn, pk_mul, ifle_t, ifle_f, iflt_t, iflt_f, ifeq_t, ifeq_f, ifm_f, ifm_t, if_true, if_false, m02]
  unfold MX5_mends
  simp (disch := omega) only [nm, jn0, jn1, jn2, jn3, jn4, jn5, bnd1_s, bnd2_s, bnd3_s, bnd4_s, lit_n, neg1, chkI_n, chkZ_n, chkC_n, bI_B, chkB_0, chkB_1, bI_t, bI_f, clamp_n, nI_add, subn, remn2, nat_rem, divn, pk_mul, ifle_t, ifle_f, iflt_t, iflt_f, ifeq_t, ifeq_f, ifm_f, ifm_t, if_true, if_false, ei, h1, h2, stuck]
  refine lq4_rel (fun i x y z (g : GS) => x = oI (bsM T S a b t i) ∧ y = nI ((bsC (bsM T S a b t i)).getD 0) ∧ z = nI i ∧ fFs mM g) (2 ^ T 0 1) (fun r => ∃ m', r = some (if w = 0 then oI (bsC (bsM T S a b t (2 ^ T 0 1))) else oI (bsM T S a b t (2 ^ T 0 1)), m') ∧ fFs mM m') ?_ _ _ _ _ ⟨rfl, rfl, rfl, fFs.refl⟩ (FU_lt (by omega))
  rintro i x y z g hi ⟨rfl, rfl, rfl, hg⟩
  have Mg := hM.fC hg.1
  have Ng := hN.row hI hg.2
  have g02 := Mg.1.2.1
  have p1 : 0 < 2 ^ T 0 1 := Nat.two_pow_pos _
  by_cases c : i < 2 ^ T 0 1
  · have hle := cs_le (s := i) (n := 8) (by decide)
    have cost : ∀ (k26 : Int32 → Option (Int32 × GS)), lq2 (BX5_mends_112 g k26 (nI i)) FU (nI 0) (nI 0) = k26 (nI (cs i 8)) := by
      intro k26
      have e8 : cs i 8 = cs i (T 0 1) := by
        have := cs_ge (s := i) (n := T 0 1) c (k := 8 - T 0 1)
        rwa [show T 0 1 + (8 - T 0 1) = 8 by omega] at this
      rw [e8]
      refine lq2_run (fun h => nI (cs i h)) nI (T 0 1) _ ?_ ?_ FU (FU_lt (by omega))
      · intro h hh rec
        have hs := r_has (s := i) (k := h) (by omega) (by omega)
        unfold BX5_mends_112
        show _ = rec (nI (cs i h + (bif i.testBit h then 1 + h else 0))) _
        cases k : i.testBit h with
        | true =>
          rw [k] at hs
          simp (disch := omega) only [nm, jn0, jn1, jn2, jn3, jn4, jn5, bnd1_s, bnd2_s, bnd3_s, bnd4_s, lit_n, neg1, chkI_n, chkZ_n, chkC_n, bI_B, chkB_0, chkB_1, bI_t, bI_f, clamp_n, nI_add, subn, remn2, nat_rem, divn, pk_mul, ifle_t, ifle_f, iflt_t, iflt_f, ifeq_t, ifeq_f, ifm_f, ifm_t, if_true, if_false, g02, hs, cond_true]
        | false =>
          rw [k] at hs
          simp (disch := omega) only [nm, jn0, jn1, jn2, jn3, jn4, jn5, bnd1_s, bnd2_s, bnd3_s, bnd4_s, lit_n, neg1, chkI_n, chkZ_n, chkC_n, bI_B, chkB_0, chkB_1, bI_t, bI_f, clamp_n, nI_add, subn, remn2, nat_rem, divn, pk_mul, ifle_t, ifle_f, iflt_t, iflt_f, ifeq_t, ifeq_f, ifm_f, ifm_t, if_true, if_false, g02, hs, cond_false, Nat.add_zero]
      · intro rec
        unfold BX5_mends_112
        simp (disch := omega) only [nm, jn0, jn1, jn2, jn3, jn4, jn5, bnd1_s, bnd2_s, bnd3_s, bnd4_s, lit_n, neg1, chkI_n, chkZ_n, chkC_n, bI_B, chkB_0, chkB_1, bI_t, bI_f, clamp_n, nI_add, subn, remn2, nat_rem, divn, pk_mul, ifle_t, ifle_f, iflt_t, iflt_f, ifeq_t, ifeq_f, ifm_f, ifm_t, if_true, if_false, g02]
    have hstep : bsM T S a b t (i + 1) = match bsM T S a b t i with
      | none => if anN i (stN T (T 0 1)) = 0 ∧ mtM T S a b t i = true then some i else none
      | some s => if anN i (stN T (T 0 1)) = 0 ∧ cs i 8 < cs s 8 ∧ mtM T S a b t i = true then some i else some s := rfl
    have hal : anN i (stN T (T 0 1)) < 2147483648 := by
      have h1 : i &&& stN T (T 0 1) < 2 ^ 8 := Nat.and_lt_two_pow _ (by omega)
      have : anN i (stN T (T 0 1)) < 2 ^ 8 := Nat.xor_lt_two_pow (by omega) h1
      omega
    have shl : nI 1 <<< (nI (T 0 1) &&& nI 31) = nI (2 ^ T 0 1) := shl_1 (by omega)
    by_cases k1 : anN i (stN T (T 0 1)) = 0
    · obtain ⟨m1, m2, m3, t1, t2, t3, t4⟩ := r_tryM hI hS hNb Mg Ng ha hb ht (s := i) (by omega) k1
      cases e : bsM T S a b t i with
      | none =>
        rw [e] at hstep
        cases k2 : mtM T S a b t i with
        | true =>
          rw [k2] at t2
          have e2 : bsM T S a b t (i + 1) = some i := by rw [hstep]; simp [k1, k2]
          refine Or.inl ⟨c, nI i, nI (cs i 8), nI (i + 1), m3, ⟨by rw [e2]; rfl, by rw [e2]; rfl, rfl, hg.trans t4⟩, fun rec => ?_⟩
          unfold BX5_mends_95
          simp (disch := omega) only [nm, jn0, jn1, jn2, jn3, jn4, jn5, bnd1_s, bnd2_s, bnd3_s, bnd4_s, lit_n, neg1, chkI_n, chkZ_n, chkC_n, bI_B, chkB_0, chkB_1, bI_t, bI_f, clamp_n, nI_add, subn, remn2, nat_rem, divn, pk_mul, ifle_t, ifle_f, iflt_t, iflt_f, ifeq_t, ifeq_f, ifm_f, ifm_t, if_true, if_false, g02, shl, cost, oI, andnot, k1, t1, t2, t3]
        | false =>
          rw [k2] at t2
          have e2 : bsM T S a b t (i + 1) = none := by rw [hstep]; simp [k2]
          have ne : ¬ (mI = nI i) := by rw [m1_nI (by omega)]; exact id
          refine Or.inl ⟨c, mI, nI ((bsC (none : Option Nat)).getD 0), nI (i + 1), m3, ⟨by rw [e2]; rfl, by rw [e2], rfl, hg.trans t4⟩, fun rec => ?_⟩
          unfold BX5_mends_95
          simp (disch := omega) only [nm, jn0, jn1, jn2, jn3, jn4, jn5, bnd1_s, bnd2_s, bnd3_s, bnd4_s, lit_n, neg1, chkI_n, chkZ_n, chkC_n, bI_B, chkB_0, chkB_1, bI_t, bI_f, clamp_n, nI_add, subn, remn2, nat_rem, divn, pk_mul, ifle_t, ifle_f, iflt_t, iflt_f, ifeq_t, ifeq_f, ifm_f, ifm_t, if_true, if_false, g02, shl, cost, oI, andnot, k1, t1, t2, t3, if_neg ne]
      | some s =>
        rw [e] at hstep
        have hs := bsM_lt e
        have hle2 := cs_le (s := s) (n := 8) (by decide)
        have eD : (bsC (some s)).getD 0 = cs s 8 := rfl
        by_cases k3 : cs i 8 < cs s 8
        · cases k2 : mtM T S a b t i with
          | true =>
            rw [k2] at t2
            have e2 : bsM T S a b t (i + 1) = some i := by rw [hstep]; simp [k1, k2, k3]
            refine Or.inl ⟨c, nI i, nI (cs i 8), nI (i + 1), m3, ⟨by rw [e2]; rfl, by rw [e2]; rfl, rfl, hg.trans t4⟩, fun rec => ?_⟩
            unfold BX5_mends_95
            simp (disch := omega) only [nm, jn0, jn1, jn2, jn3, jn4, jn5, bnd1_s, bnd2_s, bnd3_s, bnd4_s, lit_n, neg1, chkI_n, chkZ_n, chkC_n, bI_B, chkB_0, chkB_1, bI_t, bI_f, clamp_n, nI_add, subn, remn2, nat_rem, divn, pk_mul, ifle_t, ifle_f, iflt_t, iflt_f, ifeq_t, ifeq_f, ifm_f, ifm_t, if_true, if_false, g02, shl, cost, oI, andnot, k1, eD, t1, t2, t3]
          | false =>
            rw [k2] at t2
            have e2 : bsM T S a b t (i + 1) = some s := by rw [hstep]; simp [k2]
            refine Or.inl ⟨c, nI s, nI (cs s 8), nI (i + 1), m3, ⟨by rw [e2]; rfl, by rw [e2]; rfl, rfl, hg.trans t4⟩, fun rec => ?_⟩
            unfold BX5_mends_95
            simp (disch := omega) only [nm, jn0, jn1, jn2, jn3, jn4, jn5, bnd1_s, bnd2_s, bnd3_s, bnd4_s, lit_n, neg1, chkI_n, chkZ_n, chkC_n, bI_B, chkB_0, chkB_1, bI_t, bI_f, clamp_n, nI_add, subn, remn2, nat_rem, divn, pk_mul, ifle_t, ifle_f, iflt_t, iflt_f, ifeq_t, ifeq_f, ifm_f, ifm_t, if_true, if_false, g02, shl, cost, oI, andnot, k1, eD, t1, t2, t3]
        · have e2 : bsM T S a b t (i + 1) = some s := by rw [hstep]; simp [k3]
          refine Or.inl ⟨c, nI s, nI (cs s 8), nI (i + 1), g, ⟨by rw [e2]; rfl, by rw [e2]; rfl, rfl, hg⟩, fun rec => ?_⟩
          unfold BX5_mends_95
          simp (disch := omega) only [nm, jn0, jn1, jn2, jn3, jn4, jn5, bnd1_s, bnd2_s, bnd3_s, bnd4_s, lit_n, neg1, chkI_n, chkZ_n, chkC_n, bI_B, chkB_0, chkB_1, bI_t, bI_f, clamp_n, nI_add, subn, remn2, nat_rem, divn, pk_mul, ifle_t, ifle_f, iflt_t, iflt_f, ifeq_t, ifeq_f, ifm_f, ifm_t, if_true, if_false, g02, shl, cost, oI, andnot, k1, eD]
    · have e2 : bsM T S a b t (i + 1) = bsM T S a b t i := by
        rw [hstep]
        cases bsM T S a b t i <;> simp [k1]
      refine Or.inl ⟨c, oI (bsM T S a b t (i + 1)), nI ((bsC (bsM T S a b t (i + 1))).getD 0), nI (i + 1), g, ⟨rfl, rfl, rfl, hg⟩, fun rec => ?_⟩
      unfold BX5_mends_95
      rw [e2]
      simp (disch := omega) only [nm, jn0, jn1, jn2, jn3, jn4, jn5, bnd1_s, bnd2_s, bnd3_s, bnd4_s, lit_n, neg1, chkI_n, chkZ_n, chkC_n, bI_B, chkB_0, chkB_1, bI_t, bI_f, clamp_n, nI_add, subn, remn2, nat_rem, divn, pk_mul, ifle_t, ifle_f, iflt_t, iflt_f, ifeq_t, ifeq_f, ifm_f, ifm_t, if_true, if_false, g02, shl, cost, andnot]
  · have : i = 2 ^ T 0 1 := by omega
    subst this
    have shl : nI 1 <<< (nI (T 0 1) &&& nI 31) = nI (2 ^ T 0 1) := shl_1 (by omega)
    refine Or.inr ⟨_, ⟨g, rfl, hg⟩, fun rec => ?_⟩
    unfold BX5_mends_95
    cases e : bsM T S a b t (2 ^ T 0 1) with
    | none =>
      by_cases k : w = 0
      · simp (disch := omega) only [nm, jn0, jn1, jn2, jn3, jn4, jn5, bnd1_s, bnd2_s, bnd3_s, bnd4_s, lit_n, neg1, chkI_n, chkZ_n, chkC_n, bI_B, chkB_0, chkB_1, bI_t, bI_f, clamp_n, nI_add, subn, remn2, nat_rem, divn, pk_mul, ifle_t, ifle_f, iflt_t, iflt_f, ifeq_t, ifeq_f, ifm_f, ifm_t, if_true, if_false, g02, shl, oI, bsC, Option.map_none, if_pos k]
      · simp (disch := omega) only [nm, jn0, jn1, jn2, jn3, jn4, jn5, bnd1_s, bnd2_s, bnd3_s, bnd4_s, lit_n, neg1, chkI_n, chkZ_n, chkC_n, bI_B, chkB_0, chkB_1, bI_t, bI_f, clamp_n, nI_add, subn, remn2, nat_rem, divn, pk_mul, ifle_t, ifle_f, iflt_t, iflt_f, ifeq_t, ifeq_f, ifm_f, ifm_t, if_true, if_false, g02, shl, oI, if_neg k]
    | some s =>
      have hs := bsM_lt e
      by_cases k : w = 0
      · simp (disch := omega) only [nm, jn0, jn1, jn2, jn3, jn4, jn5, bnd1_s, bnd2_s, bnd3_s, bnd4_s, lit_n, neg1, chkI_n, chkZ_n, chkC_n, bI_B, chkB_0, chkB_1, bI_t, bI_f, clamp_n, nI_add, subn, remn2, nat_rem, divn, pk_mul, ifle_t, ifle_f, iflt_t, iflt_f, ifeq_t, ifeq_f, ifm_f, ifm_t, if_true, if_false, g02, shl, oI, bsC, Option.map_some, Option.getD_some, if_pos k]
      · simp (disch := omega) only [nm, jn0, jn1, jn2, jn3, jn4, jn5, bnd1_s, bnd2_s, bnd3_s, bnd4_s, lit_n, neg1, chkI_n, chkZ_n, chkC_n, bI_B, chkB_0, chkB_1, bI_t, bI_f, clamp_n, nI_add, subn, remn2, nat_rem, divn, pk_mul, ifle_t, ifle_f, iflt_t, iflt_f, ifeq_t, ifeq_f, ifm_f, ifm_t, if_true, if_false, g02, shl, oI, if_neg k]
theorem f_mends {tT gN mM : GS} {T S : NN} (hB : BV tT gN mM T S) (gA : GS) (fA : Nat → Int32) (i1 i2 i3 i4 : Int32) : ∃ r gA' fA' m', MX4_mends tT gN gA fA i1 i2 i3 i4 = some (r, gA', fA') ∧ MX5_mends mM i1 i2 i3 i4 = some (r, m') ∧ fFs mM m' := by
  have hB' := hB
  obtain ⟨hT, hI, hR, hS, hNb, hM, hN⟩ := hB'
  rcases pair_c hT hI hM i1 i2 i4 with ⟨c, h1, h2, h3⟩ | ⟨a, b, w, ha, hb, hne, hw, rfl, rfl, rfl, e1, e2, e3, e4⟩
  · obtain ⟨v, hv⟩ := in_b i4 (nI 1) 0 (by decide)
    obtain ⟨u, hu⟩ := in_b i3 (nI 99) 0 (by decide)
    have w0 := h3 false (fun z => by cases z)
    unfold MX4_mends MX5_mends
    simp (disch := omega) only [nm, jn0, jn1, jn2, jn3, jn4, jn5, bnd1_s, bnd2_s, bnd3_s, bnd4_s, lit_n, neg1, chkI_n, chkZ_n, chkC_n, bI_B, chkB_0, chkB_1, bI_t, bI_f, clamp_n, nI_add, subn, remn2, nat_rem, divn, pk_mul, ifle_t, ifle_f, iflt_t, iflt_f, ifeq_t, ifeq_f, ifm_f, ifm_t, if_true, if_false] at w0
    cases u with
    | false =>
      simp (disch := omega) only [nm, jn0, jn1, jn2, jn3, jn4, jn5, bnd1_s, bnd2_s, bnd3_s, bnd4_s, lit_n, neg1, chkI_n, chkZ_n, chkC_n, bI_B, chkB_0, chkB_1, bI_t, bI_f, clamp_n, nI_add, subn, remn2, nat_rem, divn, pk_mul, ifle_t, ifle_f, iflt_t, iflt_f, ifeq_t, ifeq_f, ifm_f, ifm_t, if_true, if_false] at hu
      simp (disch := omega) only [nm, jn0, jn1, jn2, jn3, jn4, jn5, bnd1_s, bnd2_s, bnd3_s, bnd4_s, lit_n, neg1, chkI_n, chkZ_n, chkC_n, bI_B, chkB_0, chkB_1, bI_t, bI_f, clamp_n, nI_add, subn, remn2, nat_rem, divn, pk_mul, ifle_t, ifle_f, iflt_t, iflt_f, ifeq_t, ifeq_f, ifm_f, ifm_t, if_true, if_false, h2, hu, w0, if_neg h1]
      exact ⟨_, _, _, _, rfl, rfl, fFs.refl⟩
    | true =>
      cases v with
      | false =>
        simp (disch := omega) only [nm, jn0, jn1, jn2, jn3, jn4, jn5, bnd1_s, bnd2_s, bnd3_s, bnd4_s, lit_n, neg1, chkI_n, chkZ_n, chkC_n, bI_B, chkB_0, chkB_1, bI_t, bI_f, clamp_n, nI_add, subn, remn2, nat_rem, divn, pk_mul, ifle_t, ifle_f, iflt_t, iflt_f, ifeq_t, ifeq_f, ifm_f, ifm_t, if_true, if_false] at hu hv
        simp (disch := omega) only [nm, jn0, jn1, jn2, jn3, jn4, jn5, bnd1_s, bnd2_s, bnd3_s, bnd4_s, lit_n, neg1, chkI_n, chkZ_n, chkC_n, bI_B, chkB_0, chkB_1, bI_t, bI_f, clamp_n, nI_add, subn, remn2, nat_rem, divn, pk_mul, ifle_t, ifle_f, iflt_t, iflt_f, ifeq_t, ifeq_f, ifm_f, ifm_t, if_true, if_false, h2, hu, hv, w0, if_neg h1]
        exact ⟨_, _, _, _, rfl, rfl, fFs.refl⟩
      | true =>
        have w1 := h3 true (fun _ => by rw [hv]; exact congrArg some bI_t)
        simp (disch := omega) only [nm, jn0, jn1, jn2, jn3, jn4, jn5, bnd1_s, bnd2_s, bnd3_s, bnd4_s, lit_n, neg1, chkI_n, chkZ_n, chkC_n, bI_B, chkB_0, chkB_1, bI_t, bI_f, clamp_n, nI_add, subn, remn2, nat_rem, divn, pk_mul, ifle_t, ifle_f, iflt_t, iflt_f, ifeq_t, ifeq_f, ifm_f, ifm_t, if_true, if_false] at hu hv w1
        simp (disch := omega) only [nm, jn0, jn1, jn2, jn3, jn4, jn5, bnd1_s, bnd2_s, bnd3_s, bnd4_s, lit_n, neg1, chkI_n, chkZ_n, chkC_n, bI_B, chkB_0, chkB_1, bI_t, bI_f, clamp_n, nI_add, subn, remn2, nat_rem, divn, pk_mul, ifle_t, ifle_f, iflt_t, iflt_f, ifeq_t, ifeq_f, ifm_f, ifm_t, if_true, if_false, h2, hu, hv, w1, if_neg h1]
        exact ⟨_, _, _, _, rfl, rfl, fFs.refl⟩
  · rcases arg i3 with k | ⟨t, ht, rfl⟩
    · have e := r_inN (i := i3) (hi := nI 99) (lo := 0) k (by decide)
      unfold MX4_mends MX5_mends
      simp (disch := omega) only [nm, jn0, jn1, jn2, jn3, jn4, jn5, bnd1_s, bnd2_s, bnd3_s, bnd4_s, lit_n, neg1, chkI_n, chkZ_n, chkC_n, bI_B, chkB_0, chkB_1, bI_t, bI_f, clamp_n, nI_add, subn, remn2, nat_rem, divn, pk_mul, ifle_t, ifle_f, iflt_t, iflt_f, ifeq_t, ifeq_f, ifm_f, ifm_t, if_true, if_false, e1, e3, e, ifneg k, if_neg n23.2]
      exact ⟨_, _, _, _, rfl, rfl, fFs.refl⟩
    · by_cases c : t ≤ 99
      · obtain ⟨gA', fA', k1⟩ := c_mends hB gA fA ha hb c hw e1
        obtain ⟨m', k2, k3⟩ := r_mends hB ha hb c hw e2 e4
        exact ⟨_, gA', fA', m', k1, k2, k3⟩
      · have e := r_in (k := t) (lo := 0) (hi := 99) ht (by decide) (by decide)
        rw [decide_eq_false (by omega)] at e
        unfold MX4_mends MX5_mends
        simp (disch := omega) only [nm, jn0, jn1, jn2, jn3, jn4, jn5, bnd1_s, bnd2_s, bnd3_s, bnd4_s, lit_n, neg1, chkI_n, chkZ_n, chkC_n, bI_B, chkB_0, chkB_1, bI_t, bI_f, clamp_n, nI_add, subn, remn2, nat_rem, divn, pk_mul, ifle_t, ifle_f, iflt_t, iflt_f, ifeq_t, ifeq_f, ifm_f, ifm_t, if_true, if_false, e1, e3, e, if_neg n23.2]
        exact ⟨_, _, _, _, rfl, rfl, fFs.refl⟩
