/-! laws -/
/-- a loop whose way does not hang on what comes behind it -/
theorem lq3_relK {A1 A2 A3 β K σ : Type} {f : K → (A1 → A2 → A3 → Option β) → A1 → A2 → A3 → Option β} (E : K → σ → Option β) (I : Nat → A1 → A2 → A3 → Prop) (N : Nat) (F : σ → Prop) (hs : ∀ (i : Nat) (a1 : A1) (a2 : A2) (a3 : A3), i ≤ N → I i a1 a2 a3 → (i < N ∧ ∃ (b1 : A1) (b2 : A2) (b3 : A3), I (i + 1) b1 b2 b3 ∧ ∀ k rec, f k rec a1 a2 a3 = rec b1 b2 b3) ∨ (∃ e, F e ∧ ∀ k rec, f k rec a1 a2 a3 = E k e)) (a1 : A1) (a2 : A2) (a3 : A3) (h0 : I 0 a1 a2 a3) (hN : N < FU) : ∃ e, F e ∧ ∀ k, lq3 (f k) FU a1 a2 a3 = E k e := by
  have key : ∀ (d i n : Nat) (a1 : A1) (a2 : A2) (a3 : A3), i + d = N → d < n → I i a1 a2 a3 → ∃ e, F e ∧ ∀ k, lq3 (f k) n a1 a2 a3 = E k e := by
    intro d
    induction d with
    | zero =>
      intro i n a1 a2 a3 hi hn hI
      obtain ⟨m, rfl⟩ : ∃ m, n = m + 1 := ⟨n - 1, by omega⟩
      rcases hs i a1 a2 a3 (by omega) hI with ⟨hlt, _⟩ | ⟨e, he, h⟩
      · omega
      · exact ⟨e, he, fun k => h k _⟩
    | succ d ih =>
      intro i n a1 a2 a3 hi hn hI
      obtain ⟨m, rfl⟩ : ∃ m, n = m + 1 := ⟨n - 1, by omega⟩
      rcases hs i a1 a2 a3 (by omega) hI with ⟨hlt, b1, b2, b3, hb, h⟩ | ⟨e, he, h⟩
      · obtain ⟨e, he, h2⟩ := ih (i + 1) m b1 b2 b3 (by omega) (by omega) hb
        refine ⟨e, he, fun k => ?_⟩
        show f k (lq3 (f k) m) a1 a2 a3 = _
        rw [h]
        exact h2 k
      · exact ⟨e, he, fun k => h k _⟩
  exact key N 0 FU a1 a2 a3 (by omega) hN h0
/-- what was seen: Q 0 0 sights, each a house Q 1, a plot Q 2, a night Q 3 -/
def SV (nS mM : GS) (T Q : NN) : Prop := nS 0 13 = nI (Q 0 0) ∧ mM 0 30 = nI (Q 0 0) ∧ Q 0 0 ≤ 8 ∧ ∀ i, i < Q 0 0 → nS 3 i = nI (Q 1 i) ∧ nS 4 i = nI (Q 2 i) ∧ nS 5 i = nI (Q 3 i) ∧ mM 12 (3 * i) = nI (Q 1 i) ∧ mM 12 (3 * i + 1) = nI (Q 2 i) ∧ mM 12 (3 * i + 2) = nI (Q 3 i) ∧ Q 1 i < T 0 1 ∧ Q 2 i < T 0 0 ∧ Q 3 i ≤ 99
def bad (Q : NN) (P : Nat → Nat) (t k : Nat) : Bool := decide (Q 3 k = t ∧ P (Q 1 k) ≠ Q 2 k)
def okN (Q : NN) (P : Nat → Nat) (t : Nat) : Bool := (fst1 (bad Q P t) (Q 0 0)).isNone
def okL (T Q : NN) (law : Nat) : Bool := (fst1 (fun t => !okN Q (nights T law (Sx T) t 1) t) 100).isNone
def lwB (T Q : NN) : Nat → Nat
  | 0 => 0
  | l + 1 => if okL T Q l = true then lwB T Q l ||| 2 ^ l else lwB T Q l
theorem p_explainsNight {nS mM gS : GS} {T Q S : NN} {t : Nat} (hI : IT T) (hV : SV nS mM T Q) (hR : RS gS T S 0) (hS : IS T S) (ht : t ≤ 99) : MX4_explainsNight nS gS (nI t) = some (bI (okN Q (S 1) t)) := by
  obtain ⟨v1, v2, v3, v4⟩ := hV
  have i2 := hI.1.2.2.1
  have i1 := hI.1.2.1
  unfold MX4_explainsNight
  simp only [jn0]
  refine lq1_rel (fun i x => x = nI i ∧ fst1 (bad Q (S 1) t) i = none) (Q 0 0) (fun r => r = some (bI (okN Q (S 1) t))) ?_ _ ⟨rfl, rfl⟩ (FU_lt (by omega))
  rintro i x hi ⟨rfl, hn⟩
  by_cases c : i < Q 0 0
  · obtain ⟨e1, e2, e3, -, -, -, l1, l2, l3⟩ := v4 i c
    have eP := hR.1 (Q 1 i) l1
    have lP := hS.1 (Q 1 i) l1
    have hs := fst1_s0 hn
    by_cases d : Q 3 i = t
    · by_cases k : S 1 (Q 1 i) = Q 2 i
      · have z : bad Q (S 1) t i = false := by simp [bad, k]
        refine Or.inl ⟨c, nI (i + 1), ⟨rfl, by rw [hs, z]; simp⟩, fun rec => ?_⟩
        unfold BX4_explainsNight_2
        simp (disch := omega) only [nm, jn0, jn1, jn2, jn3, jn4, jn5, bnd1_s, bnd2_s, bnd3_s, bnd4_s, lit_n, neg1, chkI_n, chkZ_n, chkC_n, bI_B, chkB_0, chkB_1, bI_t, bI_f, clamp_n, nI_add, subn, remn2, nat_rem, divn, pk_mul, ifle_t, ifle_f, iflt_t, iflt_f, ifeq_t, ifeq_f, ifm_f, ifm_t, if_true, if_false, v1, e1, e2, e3, eP]
      · have z : bad Q (S 1) t i = true := by simp [bad, k, d]
        have e4 := fst1_mono (m := Q 0 0) (hs.trans (if_pos z)) (by omega)
        refine Or.inr ⟨_, rfl, fun rec => ?_⟩
        unfold BX4_explainsNight_2 okN
        rw [e4]
        simp (disch := omega) only [nm, jn0, jn1, jn2, jn3, jn4, jn5, bnd1_s, bnd2_s, bnd3_s, bnd4_s, lit_n, neg1, chkI_n, chkZ_n, chkC_n, bI_B, chkB_0, chkB_1, bI_t, bI_f, clamp_n, nI_add, subn, remn2, nat_rem, divn, pk_mul, ifle_t, ifle_f, iflt_t, iflt_f, ifeq_t, ifeq_f, ifm_f, ifm_t, if_true, if_false, v1, e1, e2, e3, eP, Option.isNone_some]
    · have z : bad Q (S 1) t i = false := by simp [bad, d]
      refine Or.inl ⟨c, nI (i + 1), ⟨rfl, by rw [hs, z]; simp⟩, fun rec => ?_⟩
      unfold BX4_explainsNight_2
      simp (disch := omega) only [nm, jn0, jn1, jn2, jn3, jn4, jn5, bnd1_s, bnd2_s, bnd3_s, bnd4_s, lit_n, neg1, chkI_n, chkZ_n, chkC_n, bI_B, chkB_0, chkB_1, bI_t, bI_f, clamp_n, nI_add, subn, remn2, nat_rem, divn, pk_mul, ifle_t, ifle_f, iflt_t, iflt_f, ifeq_t, ifeq_f, ifm_f, ifm_t, if_true, if_false, v1, e3]
  · have : i = Q 0 0 := by omega
    subst this
    refine Or.inr ⟨_, rfl, fun rec => ?_⟩
    unfold BX4_explainsNight_2 okN
    rw [hn]
    simp (disch := omega) only [nm, jn0, jn1, jn2, jn3, jn4, jn5, bnd1_s, bnd2_s, bnd3_s, bnd4_s, lit_n, neg1, chkI_n, chkZ_n, chkC_n, bI_B, chkB_0, chkB_1, bI_t, bI_f, clamp_n, nI_add, subn, remn2, nat_rem, divn, pk_mul, ifle_t, ifle_f, iflt_t, iflt_f, ifeq_t, ifeq_f, ifm_f, ifm_t, if_true, if_false, v1, Option.isNone_none]
theorem p_explainsAll {nS mM gS tT : GS} {T Q : NN} {law : Nat} (hT : RT tT T) (hI : IT T) (hV : SV nS mM T Q) (hlaw : law ≤ 3) (fA : Nat → Int32) : ∃ g' f', MX4_explainsAllSeen nS tT gS fA (nI law) = some (bI (okL T Q law), g', f') := by
  obtain ⟨g0, hc, hR⟩ := p_startS (gS := gS) hT hI
  have hS := IS_Sx hI
  have hN0 : (Sx T) 0 5 = 0 := by simp [Sx]
  unfold MX4_explainsAllSeen
  simp (disch := omega) only [nm, jn0, jn1, jn2, jn3, jn4, jn5, bnd1_s, bnd2_s, bnd3_s, bnd4_s, lit_n, neg1, chkI_n, chkZ_n, chkC_n, bI_B, chkB_0, chkB_1, bI_t, bI_f, clamp_n, nI_add, subn, remn2, nat_rem, divn, pk_mul, ifle_t, ifle_f, iflt_t, iflt_f, ifeq_t, ifeq_f, ifm_f, ifm_t, if_true, if_false, hc]
  refine lq3_rel (fun i x (g : GS) (f : Nat → Int32) => x = nI i ∧ RS g T (nights T law (Sx T) i) 0 ∧ fst1 (fun t => !okN Q (nights T law (Sx T) t 1) t) i = none) 100 (fun r => ∃ g' f', r = some (bI (okL T Q law), g', f')) ?_ _ _ _ ⟨rfl, hR, rfl⟩ (FU_lt (by omega))
  rintro i x g f hi ⟨rfl, hg, hn⟩
  have hSi := nights_IS (law := law) (t := i) hI hS
  by_cases c : i < 100
  · have he := p_explainsNight hI hV hg hSi (t := i) (by omega)
    have hs := fst1_s0 hn
    cases k : okN Q (nights T law (Sx T) i 1) i with
    | true =>
      rw [k] at he hs
      obtain ⟨g', f', e1, e2⟩ := p_n0 hT hI hg hSi (by rw [nights_N]; omega) hlaw f
      refine Or.inl ⟨c, nI (i + 1), g', f', ⟨rfl, e2, by rw [hs]; simp⟩, fun rec => ?_⟩
      unfold BX4_explainsAllSeen_9
      simp (disch := omega) only [nm, jn0, jn1, jn2, jn3, jn4, jn5, bnd1_s, bnd2_s, bnd3_s, bnd4_s, lit_n, neg1, chkI_n, chkZ_n, chkC_n, bI_B, chkB_0, chkB_1, bI_t, bI_f, clamp_n, nI_add, subn, remn2, nat_rem, divn, pk_mul, ifle_t, ifle_f, iflt_t, iflt_f, ifeq_t, ifeq_f, ifm_f, ifm_t, if_true, if_false, he, e1]
    | false =>
      rw [k] at he hs
      have e4 := fst1_mono (m := 100) (hs.trans (if_pos rfl)) (by omega)
      refine Or.inr ⟨_, ⟨g, f, rfl⟩, fun rec => ?_⟩
      unfold BX4_explainsAllSeen_9 okL
      rw [e4]
      simp (disch := omega) only [nm, jn0, jn1, jn2, jn3, jn4, jn5, bnd1_s, bnd2_s, bnd3_s, bnd4_s, lit_n, neg1, chkI_n, chkZ_n, chkC_n, bI_B, chkB_0, chkB_1, bI_t, bI_f, clamp_n, nI_add, subn, remn2, nat_rem, divn, pk_mul, ifle_t, ifle_f, iflt_t, iflt_f, ifeq_t, ifeq_f, ifm_f, ifm_t, if_true, if_false, he, Option.isNone_some]
  · have : i = 100 := by omega
    subst this
    refine Or.inr ⟨_, ⟨g, f, rfl⟩, fun rec => ?_⟩
    unfold BX4_explainsAllSeen_9 okL
    rw [hn]
    simp (disch := omega) only [nm, jn0, jn1, jn2, jn3, jn4, jn5, bnd1_s, bnd2_s, bnd3_s, bnd4_s, lit_n, neg1, chkI_n, chkZ_n, chkC_n, bI_B, chkB_0, chkB_1, bI_t, bI_f, clamp_n, nI_add, subn, remn2, nat_rem, divn, pk_mul, ifle_t, ifle_f, iflt_t, iflt_f, ifeq_t, ifeq_f, ifm_f, ifm_t, if_true, if_false, Option.isNone_none]
theorem c_laws {nS tT gN mM : GS} {T S Q : NN} (hB : BV tT gN mM T S) (hV : SV nS mM T Q) (gA : GS) (fA : Nat → Int32) : ∃ gA' fA', MX4_laws nS tT gA fA = some (nI (lwB T Q 3), gA', fA') := by
  obtain ⟨hT, hI, hR, hS, hNb, hM, hN⟩ := hB
  unfold MX4_laws
  simp (disch := omega) only [nm, jn0, jn1, jn2, jn3, jn4, jn5, bnd1_s, bnd2_s, bnd3_s, bnd4_s, lit_n, neg1, chkI_n, chkZ_n, chkC_n, bI_B, chkB_0, chkB_1, bI_t, bI_f, clamp_n, nI_add, subn, remn2, nat_rem, divn, pk_mul, ifle_t, ifle_f, iflt_t, iflt_f, ifeq_t, ifeq_f, ifm_f, ifm_t, if_true, if_false]
  refine lq4_rel (fun i x y (g : GS) (f : Nat → Int32) => x = nI (lwB T Q i) ∧ y = nI i) 3 (fun r => ∃ gA' fA', r = some (nI (lwB T Q 3), gA', fA')) ?_ _ _ _ _ ⟨rfl, rfl⟩ (FU_lt (by omega))
  rintro i x y g f hi ⟨rfl, rfl⟩
  by_cases c : i < 3
  · obtain ⟨g', f', e⟩ := p_explainsAll (gS := g) hT hI hV (law := i) (by omega) f
    refine Or.inl ⟨c, nI (lwB T Q (i + 1)), nI (i + 1), g', f', ⟨rfl, rfl⟩, fun rec => ?_⟩
    unfold BX4_laws_4
    show _ = rec (nI (if okL T Q i = true then lwB T Q i ||| 2 ^ i else lwB T Q i)) _ _ _
    cases k : okL T Q i with
    | true =>
      rw [k] at e
      simp (disch := omega) only [nm, jn0, jn1, jn2, jn3, jn4, jn5, bnd1_s, bnd2_s, bnd3_s, bnd4_s, lit_n, neg1, chkI_n, chkZ_n, chkC_n, bI_B, chkB_0, chkB_1, bI_t, bI_f, clamp_n, nI_add, subn, remn2, nat_rem, divn, pk_mul, ifle_t, ifle_f, iflt_t, iflt_f, ifeq_t, ifeq_f, ifm_f, ifm_t, if_true, if_false, e, shl_1, fa_or]
    | false =>
      rw [k] at e
      simp (disch := omega) only [nm, jn0, jn1, jn2, jn3, jn4, jn5, bnd1_s, bnd2_s, bnd3_s, bnd4_s, lit_n, neg1, chkI_n, chkZ_n, chkC_n, bI_B, chkB_0, chkB_1, bI_t, bI_f, clamp_n, nI_add, subn, remn2, nat_rem, divn, pk_mul, ifle_t, ifle_f, iflt_t, iflt_f, ifeq_t, ifeq_f, ifm_f, ifm_t, if_true, if_false, e, Bool.false_eq_true]
  · have : i = 3 := by omega
    subst this
    refine Or.inr ⟨_, ⟨g, f, rfl⟩, fun rec => ?_⟩
    unfold BX4_laws_4
    simp (disch := omega) only [nm, jn0, jn1, jn2, jn3, jn4, jn5, bnd1_s, bnd2_s, bnd3_s, bnd4_s, lit_n, neg1, chkI_n, chkZ_n, chkC_n, bI_B, chkB_0, chkB_1, bI_t, bI_f, clamp_n, nI_add, subn, remn2, nat_rem, divn, pk_mul, ifle_t, ifle_f, iflt_t, iflt_f, ifeq_t, ifeq_f, ifm_f, ifm_t, if_true, if_false]
theorem r_laws {nS tT gN mM : GS} {T S Q : NN} (hB : BV tT gN mM T S) (hV : SV nS mM T Q) : ∃ m', MX5_laws mM = some (nI (lwB T Q 3), m') ∧ fFs mM m' := by
  obtain ⟨hT, hI, hR, hS, hNb, hM, hN⟩ := hB
  obtain ⟨v1, v2, v3, v4⟩ := hV
  have i2 := hI.1.2.2.1
  have i1 := hI.1.2.1
  have hS0 := IS_Sx hI
  have hN0 : (Sx T) 0 5 = 0 := by simp [Sx]
  obtain ⟨m1, a1, a2, a3, a4⟩ := r_putAside mM
  unfold MX5_laws
  simp (disch := omega) only [nm, jn0, jn1, jn2, jn3, jn4, jn5, bnd1_s, bnd2_s, bnd3_s, bnd4_s, lit_n, neg1, chkI_n, chkZ_n, chkC_n, bI_B, chkB_0, chkB_1, bI_t, bI_f, clamp_n, nI_add, subn, remn2, nat_rem, divn, pk_mul, ifle_t, ifle_f, iflt_t, iflt_f, ifeq_t, ifeq_f, ifm_f, ifm_t, if_true, if_false, a1]
  refine lq3_rel (fun i x y (g : GS) => x = nI (lwB T Q i) ∧ y = nI i ∧ bks mM g) 3 (fun r => ∃ m', r = some (nI (lwB T Q 3), m') ∧ fFs mM m') ?_ _ _ _ ⟨rfl, rfl, a2⟩ (FU_lt (by omega))
  rintro i x y g hi ⟨rfl, rfl, hg⟩
  by_cases c : i < 3
  · obtain ⟨gb, b1, b2, b3⟩ := r_begin (hM.fC hg.1) hI
    obtain ⟨g0, hg0⟩ : ∃ g0, g0 = up2 gb 0 34 (nI i) := ⟨_, rfl⟩
    have f0 : ∀ a j, (a = 0 → j ≠ 34) → g0 a j = gb a j := by
      intro a j h
      subst hg0
      by_cases k : a = 0
      · subst k; exact up2_n (h rfl)
      · rw [up2_r k]
    have k0 : bks mM g0 := by
      refine ⟨fun a j h => ?_, fun j hj => ?_⟩
      · have h' := h
        unfold core at h'
        rw [f0 a j (by omega), b2 a j (by omega)]
        exact hg.1 a j h
      · rw [f0 9 j (by simp), b2 9 j (by decide)]
        exact hg.2 j hj
    have n0 : RN g0 T (Sx T) := b3.row hI (fun j _ => f0 8 j (by simp))
    have gn0 : gone mM g0 T (Sx T) i 0 := ⟨k0, hM.fC k0.1, n0, by subst hg0; exact up2_s⟩
    -- the nights of a law, and what was seen
    have inner : ∃ g', bks mM g' ∧ ∀ (k18 : Int32 → GS → Option (Int32 × GS)), lq3 (BX5_laws_27 k18) FU (nI 1) (nI 0) g0 = k18 (bI (okL T Q i)) g' := by
      refine lq3_relK (f := BX5_laws_27) (fun (k18 : Int32 → GS → Option (Int32 × GS)) g' => k18 (bI (okL T Q i)) g') (fun t x y (g : GS) => x = bI (fst1 (fun t => !okN Q (nights T i (Sx T) t 1) t) t).isNone ∧ y = nI t ∧ gone mM g T (Sx T) i t) 100 (bks mM) ?_ _ _ _ ⟨rfl, rfl, gn0⟩ (FU_lt (by omega))
      rintro t x y g ht ⟨rfl, rfl, hgt⟩
      by_cases d : t < 100
      · obtain ⟨g', e1, e2⟩ := gone_s hI hS0 (by omega) (by omega) hgt
        have hSt := nights_IS (law := i) (t := t) hI hS0
        have e30 : g 0 30 = nI (Q 0 0) := by rw [hgt.1.1 0 30 (by simp [core])]; exact v2
        have loop : ∀ (k30 : Int32 → Option (Int32 × GS)), lq2 (BX5_laws_37 g k30 (nI t)) FU (bI (fst1 (fun t => !okN Q (nights T i (Sx T) t 1) t) t).isNone) (nI 0) = k30 (bI (fst1 (fun t => !okN Q (nights T i (Sx T) t 1) t) (t + 1)).isNone) := by
          intro k30
          have hend : (fst1 (fun t => !okN Q (nights T i (Sx T) t 1) t) (t + 1)).isNone = ((fst1 (fun t => !okN Q (nights T i (Sx T) t 1) t) t).isNone && okN Q (nights T i (Sx T) t 1) t) := by
            cases e : fst1 (fun t => !okN Q (nights T i (Sx T) t 1) t) t with
            | some v => rw [fst1_mono (m := t + 1) e (by omega)]; rfl
            | none =>
              rw [fst1_s0 e]
              cases okN Q (nights T i (Sx T) t 1) t <;> rfl
          rw [hend]
          generalize (fst1 (fun t => !okN Q (nights T i (Sx T) t 1) t) t).isNone = v
          have key := lq2_run (f := BX5_laws_37 g k30 (nI t)) (fun k => bI (v && (fst1 (bad Q (nights T i (Sx T) t 1) t) k).isNone)) nI (Q 0 0) (k30 (bI (v && okN Q (nights T i (Sx T) t 1) t))) ?_ ?_ FU (FU_lt (by omega))
          · simp only [fst1, Option.isNone_none, Bool.and_true] at key
            exact key
          · intro k hk rec2
            obtain ⟨-, -, -, u1, u2, u3, l1, l2, l3⟩ := v4 k hk
            have c1 : g 12 (3 * k) = nI (Q 1 k) := by rw [hgt.1.1 12 _ (by simp [core])]; exact u1
            have c2 : g 12 (3 * k + 1) = nI (Q 2 k) := by rw [hgt.1.1 12 _ (by simp [core])]; exact u2
            have c3 : g 12 (3 * k + 2) = nI (Q 3 k) := by rw [hgt.1.1 12 _ (by simp [core])]; exact u3
            have c4 := hgt.2.2.1.1 (Q 1 k) l1
            have c5 := hSt.1 (Q 1 k) l1
            unfold BX5_laws_37
            cases v with
            | false => simp (disch := omega) only [nm, jn0, jn1, jn2, jn3, jn4, jn5, bnd1_s, bnd2_s, bnd3_s, bnd4_s, lit_n, neg1, chkI_n, chkZ_n, chkC_n, bI_B, chkB_0, chkB_1, bI_t, bI_f, clamp_n, nI_add, subn, remn2, nat_rem, divn, pk_mul, ifle_t, ifle_f, iflt_t, iflt_f, ifeq_t, ifeq_f, ifm_f, ifm_t, if_true, if_false, e30, Bool.false_and]
            | true =>
              cases e : fst1 (bad Q (nights T i (Sx T) t 1) t) k with
              | some w =>
                rw [fst1_mono (m := k + 1) e (by omega)]
                simp (disch := omega) only [nm, jn0, jn1, jn2, jn3, jn4, jn5, bnd1_s, bnd2_s, bnd3_s, bnd4_s, lit_n, neg1, chkI_n, chkZ_n, chkC_n, bI_B, chkB_0, chkB_1, bI_t, bI_f, clamp_n, nI_add, subn, remn2, nat_rem, divn, pk_mul, ifle_t, ifle_f, iflt_t, iflt_f, ifeq_t, ifeq_f, ifm_f, ifm_t, if_true, if_false, e30, Option.isNone_some, Bool.and_false]
              | none =>
                rw [fst1_s0 e]
                by_cases z1 : Q 3 k = t
                · by_cases z2 : nights T i (Sx T) t 1 (Q 1 k) = Q 2 k
                  · have z : bad Q (nights T i (Sx T) t 1) t k = false := by simp [bad, z2]
                    rw [z]
                    simp (disch := omega) only [nm, jn0, jn1, jn2, jn3, jn4, jn5, bnd1_s, bnd2_s, bnd3_s, bnd4_s, lit_n, neg1, chkI_n, chkZ_n, chkC_n, bI_B, chkB_0, chkB_1, bI_t, bI_f, clamp_n, nI_add, subn, remn2, nat_rem, divn, pk_mul, ifle_t, ifle_f, iflt_t, iflt_f, ifeq_t, ifeq_f, ifm_f, ifm_t, if_true, if_false, e30, c1, c2, c3, c4, Option.isNone_none, Bool.and_true, Bool.false_eq_true]
                  · have z : bad Q (nights T i (Sx T) t 1) t k = true := by simp [bad, z1, z2]
                    rw [z]
                    simp (disch := omega) only [nm, jn0, jn1, jn2, jn3, jn4, jn5, bnd1_s, bnd2_s, bnd3_s, bnd4_s, lit_n, neg1, chkI_n, chkZ_n, chkC_n, bI_B, chkB_0, chkB_1, bI_t, bI_f, clamp_n, nI_add, subn, remn2, nat_rem, divn, pk_mul, ifle_t, ifle_f, iflt_t, iflt_f, ifeq_t, ifeq_f, ifm_f, ifm_t, if_true, if_false, e30, c1, c2, c3, c4, Option.isNone_none, Option.isNone_some, Bool.and_true, Bool.and_false]
                · have z : bad Q (nights T i (Sx T) t 1) t k = false := by simp [bad, z1]
                  rw [z]
                  simp (disch := omega) only [nm, jn0, jn1, jn2, jn3, jn4, jn5, bnd1_s, bnd2_s, bnd3_s, bnd4_s, lit_n, neg1, chkI_n, chkZ_n, chkC_n, bI_B, chkB_0, chkB_1, bI_t, bI_f, clamp_n, nI_add, subn, remn2, nat_rem, divn, pk_mul, ifle_t, ifle_f, iflt_t, iflt_f, ifeq_t, ifeq_f, ifm_f, ifm_t, if_true, if_false, e30, c3, Option.isNone_none, Bool.and_true, Bool.false_eq_true]
          · intro rec2
            unfold BX5_laws_37 okN
            simp (disch := omega) only [nm, jn0, jn1, jn2, jn3, jn4, jn5, bnd1_s, bnd2_s, bnd3_s, bnd4_s, lit_n, neg1, chkI_n, chkZ_n, chkC_n, bI_B, chkB_0, chkB_1, bI_t, bI_f, clamp_n, nI_add, subn, remn2, nat_rem, divn, pk_mul, ifle_t, ifle_f, iflt_t, iflt_f, ifeq_t, ifeq_f, ifm_f, ifm_t, if_true, if_false, e30]
        refine Or.inl ⟨d, bI (fst1 (fun t => !okN Q (nights T i (Sx T) t 1) t) (t + 1)).isNone, nI (t + 1), g', ⟨rfl, rfl, e2⟩, fun k18 rec => ?_⟩
        unfold BX5_laws_27
        simp (disch := omega) only [nm, jn0, jn1, jn2, jn3, jn4, jn5, bnd1_s, bnd2_s, bnd3_s, bnd4_s, lit_n, neg1, chkI_n, chkZ_n, chkC_n, bI_B, chkB_0, chkB_1, bI_t, bI_f, clamp_n, nI_add, subn, remn2, nat_rem, divn, pk_mul, ifle_t, ifle_f, iflt_t, iflt_f, ifeq_t, ifeq_f, ifm_f, ifm_t, if_true, if_false, loop, e1]
      · have : t = 100 := by omega
        subst this
        refine Or.inr ⟨g, hgt.1, fun k18 rec => ?_⟩
        unfold BX5_laws_27 okL
        simp (disch := omega) only [nm, jn0, jn1, jn2, jn3, jn4, jn5, bnd1_s, bnd2_s, bnd3_s, bnd4_s, lit_n, neg1, chkI_n, chkZ_n, chkC_n, bI_B, chkB_0, chkB_1, bI_t, bI_f, clamp_n, nI_add, subn, remn2, nat_rem, divn, pk_mul, ifle_t, ifle_f, iflt_t, iflt_f, ifeq_t, ifeq_f, ifm_f, ifm_t, if_true, if_false]
    obtain ⟨o, ho⟩ : ∃ o, o = okL T Q i := ⟨_, rfl⟩
    have hstep : lwB T Q (i + 1) = lwB T Q i ||| (if o = true then 2 ^ i else 0) := by
      show (if okL T Q i = true then lwB T Q i ||| 2 ^ i else lwB T Q i) = _
      rw [← ho]
      cases o <;> simp
    obtain ⟨g9, q1, q2⟩ := inner
    rw [← ho] at q2
    refine Or.inl ⟨c, nI (lwB T Q (i + 1)), nI (i + 1), g9, ⟨rfl, rfl, q1⟩, fun rec => ?_⟩
    unfold BX5_laws_8
    rw [hstep]
    have hg0' : up2 gb 0 34 (nI i) = g0 := hg0.symm
    cases o with
    | true => simp (disch := omega) only [nm, jn0, jn1, jn2, jn3, jn4, jn5, bnd1_s, bnd2_s, bnd3_s, bnd4_s, lit_n, neg1, chkI_n, chkZ_n, chkC_n, bI_B, chkB_0, chkB_1, bI_t, bI_f, clamp_n, nI_add, subn, remn2, nat_rem, divn, pk_mul, ifle_t, ifle_f, iflt_t, iflt_f, ifeq_t, ifeq_f, ifm_f, ifm_t, if_true, if_false, b1, hg0', q2, shl_1, fa_or]
    | false => simp (disch := omega) only [nm, jn0, jn1, jn2, jn3, jn4, jn5, bnd1_s, bnd2_s, bnd3_s, bnd4_s, lit_n, neg1, chkI_n, chkZ_n, chkC_n, bI_B, chkB_0, chkB_1, bI_t, bI_f, clamp_n, nI_add, subn, remn2, nat_rem, divn, pk_mul, ifle_t, ifle_f, iflt_t, iflt_f, ifeq_t, ifeq_f, ifm_f, ifm_t, if_true, if_false, b1, hg0', q2, fa_or, Bool.false_eq_true]
  · have : i = 3 := by omega
    subst this
    obtain ⟨m', p1, p2⟩ := r_putBack hg
    refine Or.inr ⟨_, ⟨m', rfl, p2⟩, fun rec => ?_⟩
    unfold BX5_laws_8
    simp (disch := omega) only [nm, jn0, jn1, jn2, jn3, jn4, jn5, bnd1_s, bnd2_s, bnd3_s, bnd4_s, lit_n, neg1, chkI_n, chkZ_n, chkC_n, bI_B, chkB_0, chkB_1, bI_t, bI_f, clamp_n, nI_add, subn, remn2, nat_rem, divn, pk_mul, ifle_t, ifle_f, iflt_t, iflt_f, ifeq_t, ifeq_f, ifm_f, ifm_t, if_true, if_false, p1]
