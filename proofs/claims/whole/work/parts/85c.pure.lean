/-! ===== what is kept, seen, written ===== -/
def img (mM : GS) (T : NN) (k : Nat) (K : NN) : Prop := (∀ h, h < T 0 1 → mM 10 (19 * k + h) = nI (K 1 h)) ∧ (∀ h, h < T 0 1 → mM 10 (19 * k + (8 + h)) = rI (K 2 h)) ∧ mM 10 (19 * k + 16) = nI (K 0 5) ∧ mM 10 (19 * k + 17) = nI (K 0 6) ∧ mM 10 (19 * k + 18) = nI (K 0 7)
def KV (nS mM g : GS) (T : NN) (k : Nat) (K : NN) : Prop := ∃ b : Bool, nS 2 k = bI b ∧ mM 11 k = bI b ∧ (b = true → RS g T K 0 ∧ IS T K ∧ K 0 5 ≤ 9999 ∧ img mM T k K)
def TV (xT mM : GS) (L : Nat) (Bt : Nat → Nat) : Prop := xT 0 1 = nI L ∧ mM 0 11 = nI L ∧ L ≤ 200 ∧ ∀ i, i < L → xT 1 i = nI (Bt i) ∧ mM 6 i = nI (Bt i) ∧ Bt i < 256
theorem SV.fC {nS g g' : GS} {T Q : NN} (h : SV nS g T Q) (f : fCs g g') : SV nS g' T Q := by
  obtain ⟨a, b, c, d⟩ := h
  refine ⟨a, by rw [f 0 30 (by simp [core])]; exact b, c, fun i hi => ?_⟩
  rw [f 12 _ (by simp [core]), f 12 _ (by simp [core]), f 12 _ (by simp [core])]
  exact d i hi
theorem KV.fC {nS g g' gK : GS} {T K : NN} {k : Nat} (h : KV nS g gK T k K) (f : fCs g g') : KV nS g' gK T k K := by
  obtain ⟨b, h1, h2, h3⟩ := h
  refine ⟨b, h1, by rw [f 11 _ (by simp [core])]; exact h2, fun z => ?_⟩
  obtain ⟨q1, q2, q3, q4⟩ := h3 z
  refine ⟨q1, q2, q3, ?_⟩
  unfold img
  simp only [f 10 _ (show core 10 _ by simp [core])]
  exact q4
theorem TV.fC {xT g g' : GS} {L : Nat} {Bt : Nat → Nat} (h : TV xT g L Bt) (f : fCs g g') : TV xT g' L Bt := by
  obtain ⟨a, b, c, d⟩ := h
  refine ⟨a, by rw [f 0 11 (by simp [core])]; exact b, c, fun i hi => ?_⟩
  rw [f 6 _ (by simp [core])]
  exact d i hi
theorem BV.fF {tT gN g g' : GS} {T S : NN} (h : BV tT gN g T S) (f : fFs g g') : BV tT gN g' T S := by
  obtain ⟨hT, hI, hR, hS, hNb, hM, hN⟩ := h
  exact ⟨hT, hI, hR, hS, hNb, hM.fC f.1, hN.row hI f.2⟩
theorem nar1 : vp_nar .boolean (nI 1) = nI 1 := rfl
theorem nar0 : vp_nar .boolean (nI 0) = nI 0 := rfl
theorem f_keep {nS tT gN gK gL mM : GS} {T S K0 K1 : NN} (hB : BV tT gN mM T S) (hK : KV nS mM gK T 0 K0) (hL : KV nS mM gL T 1 K1) (i1 : Int32) : ∃ r nS' gK' gL' m' K0' K1', MX4_keep nS gN gK gL i1 = some (r, nS', gK', gL') ∧ MX5_keep mM i1 = some (r, m') ∧ KV nS' m' gK' T 0 K0' ∧ KV nS' m' gL' T 1 K1' ∧ (∀ i j, i ≠ 2 → nS' i j = nS i j) ∧ (∀ i j, i ≠ 10 → i ≠ 11 → m' i j = mM i j) := by
  obtain ⟨hT, hI, hR, hS, hNb, hM, hN⟩ := hB
  have i2 := hI.1.2.2.1
  have n1 := hR.2.2.2.1
  have n2 := hN.2.2.1
  unfold MX4_keep MX5_keep
  rcases arg i1 with z | ⟨k, hk, rfl⟩
  · have e := r_inN (i := i1) (hi := nI 1) (lo := 0) z (by decide)
    simp (disch := omega) only [nm, jn0, jn1, jn2, jn3, jn4, jn5, bnd1_s, bnd2_s, bnd3_s, bnd4_s, lit_n, neg1, chkI_n, chkZ_n, chkC_n, bI_B, chkB_0, chkB_1, bI_t, bI_f, clamp_n, nI_add, subn, remn2, nat_rem, divn, pk_mul, ifle_t, ifle_f, iflt_t, iflt_f, ifeq_t, ifeq_f, ifm_f, ifm_t, if_true, if_false, e, ifneg z]
    exact ⟨_, _, _, _, _, K0, K1, rfl, rfl, hK, hL, fun _ _ _ => rfl, fun _ _ _ _ => rfl⟩
  · have e := r_in (k := k) (lo := 0) (hi := 1) hk (by decide) (by decide)
    by_cases c : k ≤ 1
    · rw [decide_eq_true (by omega)] at e
      obtain ⟨f', hf, h1, h2⟩ := r_copy (n1 := 19) (n2 := 38) (a := 0) (b := 19 * k) (f1 := mM 8) (f2 := mM 10) (by decide) (by omega) (by decide) (by decide)
      have hf' : MX5_copy 19 38 (mM 8) (mM 10) (nI 0) (nI (19 * k)) = some f' := hf
      -- the state that is kept
      have hu : ∀ (g g' : GS) (v : Nat), (∀ a b, a ≠ 2 → (upA g 2 (upd (g 2) k (nI v))) a b = g a b) := fun g g' v a b q => by rw [upA_r q]
      have m8 : (upA mM 10 f') 8 16 = nI (S 0 5) := by rw [upA_r (by decide)]; exact n2
      have himg : ∀ g : GS, g 10 = f' → img g T k S := by
        intro g hg
        obtain ⟨q1, q2, q3, q4, q5⟩ := hN
        refine ⟨fun h hh => ?_, fun h hh => ?_, ?_, ?_, ?_⟩
        · rw [hg, h1 h (by omega), Nat.zero_add]; exact q1 h hh
        · rw [hg, h1 (8 + h) (by omega), Nat.zero_add]; exact q2 h hh
        · rw [hg, h1 16 (by decide)]; exact q3
        · rw [hg, h1 17 (by decide)]; exact q4
        · rw [hg, h1 18 (by decide)]; exact q5
      have hoth : ∀ (j : Nat) (g : GS) (K : NN), j ≤ 1 → j ≠ k → g 10 = f' → img mM T j K → img g T j K := by
        intro j g K hj hjk hg hi
        have o : ∀ d, d < 19 → g 10 (19 * j + d) = mM 10 (19 * j + d) := fun d hd => by rw [hg]; exact h2 _ (by omega)
        obtain ⟨q1, q2, q3, q4, q5⟩ := hi
        exact ⟨fun h hh => by rw [o _ (by omega)]; exact q1 h hh, fun h hh => by rw [o _ (by omega)]; exact q2 h hh, by rw [o _ (by decide)]; exact q3, by rw [o _ (by decide)]; exact q4, by rw [o _ (by decide)]; exact q5⟩
      have keepO : ∀ (j : Nat) (g : GS) (K : NN), j ≤ 1 → j ≠ k → KV nS mM g T j K → KV (upA nS 2 (upd (nS 2) k (nI 1))) (upA (upA mM 10 f') 11 (upd ((upA mM 10 f') 11) k (nI 1))) g T j K := by
        intro j g K hj hjk ⟨b, b1, b2, b3⟩
        refine ⟨b, ?_, ?_, fun q => ?_⟩
        · rw [upA_s, pk_un hjk]; exact b1
        · rw [upA_s, pk_un hjk, upA_r (by decide)]; exact b2
        · obtain ⟨c1, c2, c3, c4⟩ := b3 q
          exact ⟨c1, c2, c3, hoth j _ K hj hjk (by rw [upA_r (by decide), upA_s]) c4⟩
      have keepN : ∀ (g : GS), RS g T S 0 → KV (upA nS 2 (upd (nS 2) k (nI 1))) (upA (upA mM 10 f') 11 (upd ((upA mM 10 f') 11) k (nI 1))) g T k S := by
        intro g hg
        refine ⟨true, ?_, ?_, fun _ => ⟨hg, hS, hNb, himg _ (by rw [upA_r (by decide), upA_s])⟩⟩
        · rw [upA_s, pk_us]; exact bI_t.symm
        · rw [upA_s, pk_us]; exact bI_t.symm
      have fr : ∀ i j, i ≠ 10 → i ≠ 11 → (upA (upA mM 10 f') 11 (upd ((upA mM 10 f') 11) k (nI 1))) i j = mM i j := fun i j a b => by rw [upA_r b, upA_r a]
      by_cases d : k = 0
      · subst d
        obtain ⟨gK', hc, hcR⟩ := p_copyS (gS := gK) hI hR
        refine ⟨nI (S 0 5), _, gK', gL, _, S, K1, ?_, ?_, keepN gK' hcR, keepO 1 gL K1 (by decide) (by decide) hL, hu nS nS 1, fr⟩
        · simp (disch := omega) only [nm, jn0, jn1, jn2, jn3, jn4, jn5, bnd1_s, bnd2_s, bnd3_s, bnd4_s, lit_n, neg1, chkI_n, chkZ_n, chkC_n, bI_B, chkB_0, chkB_1, bI_t, bI_f, clamp_n, nI_add, subn, remn2, nat_rem, divn, pk_mul, ifle_t, ifle_f, iflt_t, iflt_f, ifeq_t, ifeq_f, ifm_f, ifm_t, if_true, if_false, hc, nar1, n1]
        · simp (disch := omega) only [nm, jn0, jn1, jn2, jn3, jn4, jn5, bnd1_s, bnd2_s, bnd3_s, bnd4_s, lit_n, neg1, chkI_n, chkZ_n, chkC_n, bI_B, chkB_0, chkB_1, bI_t, bI_f, clamp_n, nI_add, subn, remn2, nat_rem, divn, pk_mul, ifle_t, ifle_f, iflt_t, iflt_f, ifeq_t, ifeq_f, ifm_f, ifm_t, if_true, if_false, e, hf', nar1, m8, upA_r]
          simp (disch := omega) only [up2_s, up2_r, up2_n, upA_s, upA_r, pk_us, pk_un, cpy_n, n2]
      · have : k = 1 := by omega
        subst this
        obtain ⟨gL', hc, hcR⟩ := p_copyS (gS := gL) hI hR
        refine ⟨nI (S 0 5), _, gK, gL', _, K0, S, ?_, ?_, keepO 0 gK K0 (by decide) (by decide) hK, keepN gL' hcR, hu nS nS 1, fr⟩
        · simp (disch := omega) only [nm, jn0, jn1, jn2, jn3, jn4, jn5, bnd1_s, bnd2_s, bnd3_s, bnd4_s, lit_n, neg1, chkI_n, chkZ_n, chkC_n, bI_B, chkB_0, chkB_1, bI_t, bI_f, clamp_n, nI_add, subn, remn2, nat_rem, divn, pk_mul, ifle_t, ifle_f, iflt_t, iflt_f, ifeq_t, ifeq_f, ifm_f, ifm_t, if_true, if_false, hc, nar1, n1]
        · simp (disch := omega) only [nm, jn0, jn1, jn2, jn3, jn4, jn5, bnd1_s, bnd2_s, bnd3_s, bnd4_s, lit_n, neg1, chkI_n, chkZ_n, chkC_n, bI_B, chkB_0, chkB_1, bI_t, bI_f, clamp_n, nI_add, subn, remn2, nat_rem, divn, pk_mul, ifle_t, ifle_f, iflt_t, iflt_f, ifeq_t, ifeq_f, ifm_f, ifm_t, if_true, if_false, e, hf', nar1, m8, upA_r]
          simp (disch := omega) only [up2_s, up2_r, up2_n, upA_s, upA_r, pk_us, pk_un, cpy_n, n2]
    · rw [decide_eq_false (by omega)] at e
      simp (disch := omega) only [nm, jn0, jn1, jn2, jn3, jn4, jn5, bnd1_s, bnd2_s, bnd3_s, bnd4_s, lit_n, neg1, chkI_n, chkZ_n, chkC_n, bI_B, chkB_0, chkB_1, bI_t, bI_f, clamp_n, nI_add, subn, remn2, nat_rem, divn, pk_mul, ifle_t, ifle_f, iflt_t, iflt_f, ifeq_t, ifeq_f, ifm_f, ifm_t, if_true, if_false, e]
      exact ⟨_, _, _, _, _, K0, K1, rfl, rfl, hK, hL, fun _ _ _ => rfl, fun _ _ _ _ => rfl⟩
theorem f_back {nS tT gN gK gL mM : GS} {T S K0 K1 : NN} (hB : BV tT gN mM T S) (hK : KV nS mM gK T 0 K0) (hL : KV nS mM gL T 1 K1) (i1 : Int32) : ∃ r gN' m' S', MX4_back nS gN gK gL i1 = some (r, gN') ∧ MX5_back mM i1 = some (r, m') ∧ BV tT gN' m' T S' ∧ fCs mM m' := by
  have hB' := hB
  obtain ⟨hT, hI, hR, hS, hNb, hM, hN⟩ := hB'
  have i2 := hI.1.2.2.1
  unfold MX4_back MX5_back
  rcases arg i1 with z | ⟨k, hk, rfl⟩
  · have e := r_inN (i := i1) (hi := nI 1) (lo := 0) z (by decide)
    simp (disch := omega) only [nm, jn0, jn1, jn2, jn3, jn4, jn5, bnd1_s, bnd2_s, bnd3_s, bnd4_s, lit_n, neg1, chkI_n, chkZ_n, chkC_n, bI_B, chkB_0, chkB_1, bI_t, bI_f, clamp_n, nI_add, subn, remn2, nat_rem, divn, pk_mul, ifle_t, ifle_f, iflt_t, iflt_f, ifeq_t, ifeq_f, ifm_f, ifm_t, if_true, if_false, e, ifneg z]
    exact ⟨_, _, _, S, rfl, rfl, hB, fCs.refl⟩
  · have e := r_in (k := k) (lo := 0) (hi := 1) hk (by decide) (by decide)
    by_cases c : k ≤ 1
    · rw [decide_eq_true (by omega)] at e
      have main : ∀ (g : GS) (K : NN), KV nS mM g T k K → (∀ gN', MX1_copyFrom gN g = some gN' → MX4_back nS gN gK gL (nI k) = if nS 2 k = nI 0 then some (-nI 4, gN) else some (gN' 0 5, gN')) → ∃ r gN' m' S', MX4_back nS gN gK gL (nI k) = some (r, gN') ∧ MX5_back mM (nI k) = some (r, m') ∧ BV tT gN' m' T S' ∧ fCs mM m' := by
        intro g K ⟨b, b1, b2, b3⟩ hcl
        cases b with
        | false =>
          rw [bI_f] at b1 b2
          obtain ⟨gN', hc⟩ : ∃ gN', MX1_copyFrom gN g = some gN' := by
            unfold MX1_copyFrom
            simp (disch := omega) only [nm, jn0, jn1, jn2, jn3, jn4, jn5, bnd1_s, bnd2_s, bnd3_s, bnd4_s, lit_n, neg1, chkI_n, chkZ_n, chkC_n, bI_B, chkB_0, chkB_1, bI_t, bI_f, clamp_n, nI_add, subn, remn2, nat_rem, divn, pk_mul, ifle_t, ifle_f, iflt_t, iflt_f, ifeq_t, ifeq_f, ifm_f, ifm_t, if_true, if_false]
            exact ⟨_, rfl⟩
          have h1 := hcl gN' hc
          rw [if_pos b1] at h1
          refine ⟨_, _, mM, S, h1, ?_, hB, fCs.refl⟩
          unfold MX5_back
          simp (disch := omega) only [nm, jn0, jn1, jn2, jn3, jn4, jn5, bnd1_s, bnd2_s, bnd3_s, bnd4_s, lit_n, neg1, chkI_n, chkZ_n, chkC_n, bI_B, chkB_0, chkB_1, bI_t, bI_f, clamp_n, nI_add, subn, remn2, nat_rem, divn, pk_mul, ifle_t, ifle_f, iflt_t, iflt_f, ifeq_t, ifeq_f, ifm_f, ifm_t, if_true, if_false, e, b2]
        | true =>
          rw [bI_t] at b1 b2
          obtain ⟨c1, c2, c3, c4⟩ := b3 rfl
          obtain ⟨gN', hc, hcR⟩ := p_copyS (gS := gN) hI c1
          have h1 := hcl gN' hc
          rw [if_neg (by rw [b1]; decide)] at h1
          rw [hcR.2.2.2.1] at h1
          obtain ⟨f', hf, g1, g2⟩ := r_copy (n1 := 38) (n2 := 19) (a := 19 * k) (b := 0) (f1 := mM 10) (f2 := mM 8) (by omega) (by decide) (by decide) (by decide)
          have hf' : MX5_copy 38 19 (mM 10) (mM 8) (nI (19 * k)) (nI 0) = some f' := hf
          have g1' : ∀ j, j < 19 → f' j = mM 10 (19 * k + j) := fun j hj => by have := g1 j hj; rwa [Nat.zero_add] at this
          obtain ⟨q1, q2, q3, q4, q5⟩ := c4
          have e16 : f' 16 = nI (K 0 5) := by rw [g1' 16 (by decide)]; exact q3
          have fc : fCs mM (upA mM 8 f') := fun a b z => by unfold core at z; rw [upA_r (by omega)]
          refine ⟨nI (K 0 5), gN', upA mM 8 f', K, h1, ?_, ⟨hT, hI, hcR, c2, c3, hM.fC fc, ?_⟩, fc⟩
          · unfold MX5_back
            simp (disch := omega) only [nm, jn0, jn1, jn2, jn3, jn4, jn5, bnd1_s, bnd2_s, bnd3_s, bnd4_s, lit_n, neg1, chkI_n, chkZ_n, chkC_n, bI_B, chkB_0, chkB_1, bI_t, bI_f, clamp_n, nI_add, subn, remn2, nat_rem, divn, pk_mul, ifle_t, ifle_f, iflt_t, iflt_f, ifeq_t, ifeq_f, ifm_f, ifm_t, if_true, if_false, e, b2, hf', up2_s, up2_r, up2_n, upA_s, upA_r, pk_us, pk_un, cpy_n, e16]
          · refine ⟨fun h hh => ?_, fun h hh => ?_, ?_, ?_, ?_⟩
            · rw [upA_s, g1' h (by omega)]; exact q1 h hh
            · rw [upA_s, g1' (8 + h) (by omega)]; exact q2 h hh
            · rw [upA_s]; exact e16
            · rw [upA_s, g1' 17 (by decide)]; exact q4
            · rw [upA_s, g1' 18 (by decide)]; exact q5
      unfold MX4_back MX5_back at main
      by_cases d : k = 0
      · subst d
        refine main gK K0 hK fun gN' hc => ?_
        simp (disch := omega) only [nm, jn0, jn1, jn2, jn3, jn4, jn5, bnd1_s, bnd2_s, bnd3_s, bnd4_s, lit_n, neg1, chkI_n, chkZ_n, chkC_n, bI_B, chkB_0, chkB_1, bI_t, bI_f, clamp_n, nI_add, subn, remn2, nat_rem, divn, pk_mul, ifle_t, ifle_f, iflt_t, iflt_f, ifeq_t, ifeq_f, ifm_f, ifm_t, if_true, if_false, hc]
      · have : k = 1 := by omega
        subst this
        refine main gL K1 hL fun gN' hc => ?_
        simp (disch := omega) only [nm, jn0, jn1, jn2, jn3, jn4, jn5, bnd1_s, bnd2_s, bnd3_s, bnd4_s, lit_n, neg1, chkI_n, chkZ_n, chkC_n, bI_B, chkB_0, chkB_1, bI_t, bI_f, clamp_n, nI_add, subn, remn2, nat_rem, divn, pk_mul, ifle_t, ifle_f, iflt_t, iflt_f, ifeq_t, ifeq_f, ifm_f, ifm_t, if_true, if_false, hc]
    · rw [decide_eq_false (by omega)] at e
      simp (disch := omega) only [nm, jn0, jn1, jn2, jn3, jn4, jn5, bnd1_s, bnd2_s, bnd3_s, bnd4_s, lit_n, neg1, chkI_n, chkZ_n, chkC_n, bI_B, chkB_0, chkB_1, bI_t, bI_f, clamp_n, nI_add, subn, remn2, nat_rem, divn, pk_mul, ifle_t, ifle_f, iflt_t, iflt_f, ifeq_t, ifeq_f, ifm_f, ifm_t, if_true, if_false, e]
      exact ⟨_, _, _, S, rfl, rfl, hB, fCs.refl⟩
theorem f_seen {nS tT gN mM : GS} {T S Q : NN} (hB : BV tT gN mM T S) (hV : SV nS mM T Q) (i1 i2 i3 : Int32) : ∃ r nS' m' Q', MX4_seen nS tT i1 i2 i3 = some (r, nS') ∧ MX5_seen mM i1 i2 i3 = some (r, m') ∧ SV nS' m' T Q' ∧ (nS' 2 = nS 2) ∧ (∀ i j, i ≠ 12 → (i = 0 → j ≠ 30) → m' i j = mM i j) := by
  obtain ⟨hT, hI, hR, hS, hNb, hM, hN⟩ := hB
  have i2' := hI.1.2.2.1
  have i1' := hI.1.2.1
  have hV' := hV
  obtain ⟨v1, v2, v3, v4⟩ := hV'
  unfold MX4_seen MX5_seen
  rcases isHouse_c hT hI hM i1 with ⟨h1, h2⟩ | ⟨h, hh, rfl, h1, h2⟩
  · simp (disch := omega) only [nm, jn0, jn1, jn2, jn3, jn4, jn5, bnd1_s, bnd2_s, bnd3_s, bnd4_s, lit_n, neg1, chkI_n, chkZ_n, chkC_n, bI_B, chkB_0, chkB_1, bI_t, bI_f, clamp_n, nI_add, subn, remn2, nat_rem, divn, pk_mul, ifle_t, ifle_f, iflt_t, iflt_f, ifeq_t, ifeq_f, ifm_f, ifm_t, if_true, if_false, h1, h2]
    exact ⟨_, _, _, Q, rfl, rfl, hV, rfl, fun _ _ _ _ => rfl⟩
  · rcases isPlot_c hT hI hM i2 with ⟨g1, g2⟩ | ⟨q, hq, rfl, g1, g2⟩
    · simp (disch := omega) only [nm, jn0, jn1, jn2, jn3, jn4, jn5, bnd1_s, bnd2_s, bnd3_s, bnd4_s, lit_n, neg1, chkI_n, chkZ_n, chkC_n, bI_B, chkB_0, chkB_1, bI_t, bI_f, clamp_n, nI_add, subn, remn2, nat_rem, divn, pk_mul, ifle_t, ifle_f, iflt_t, iflt_f, ifeq_t, ifeq_f, ifm_f, ifm_t, if_true, if_false, h1, h2, g1, g2]
      exact ⟨_, _, _, Q, rfl, rfl, hV, rfl, fun _ _ _ _ => rfl⟩
    · rcases arg i3 with z | ⟨t, ht, rfl⟩
      · have e := r_inN (i := i3) (hi := nI 99) (lo := 0) z (by decide)
        simp (disch := omega) only [nm, jn0, jn1, jn2, jn3, jn4, jn5, bnd1_s, bnd2_s, bnd3_s, bnd4_s, lit_n, neg1, chkI_n, chkZ_n, chkC_n, bI_B, chkB_0, chkB_1, bI_t, bI_f, clamp_n, nI_add, subn, remn2, nat_rem, divn, pk_mul, ifle_t, ifle_f, iflt_t, iflt_f, ifeq_t, ifeq_f, ifm_f, ifm_t, if_true, if_false, h1, h2, g1, g2, e, ifneg z]
        exact ⟨_, _, _, Q, rfl, rfl, hV, rfl, fun _ _ _ _ => rfl⟩
      · have e := r_in (k := t) (lo := 0) (hi := 99) ht (by decide) (by decide)
        by_cases c : t ≤ 99
        · rw [decide_eq_true (by omega)] at e
          by_cases d : Q 0 0 < 8
          · simp (disch := omega) only [nm, jn0, jn1, jn2, jn3, jn4, jn5, bnd1_s, bnd2_s, bnd3_s, bnd4_s, lit_n, neg1, chkI_n, chkZ_n, chkC_n, bI_B, chkB_0, chkB_1, bI_t, bI_f, clamp_n, nI_add, subn, remn2, nat_rem, divn, pk_mul, ifle_t, ifle_f, iflt_t, iflt_f, ifeq_t, ifeq_f, ifm_f, ifm_t, if_true, if_false, h1, h2, g1, g2, e, v1, v2, up2_s, up2_r, up2_n, upA_s, upA_r, pk_us, pk_un, cpy_n]
            refine ⟨nI (Q 0 0 + 1), _, _, tU (tU (tU (tU Q 1 (Q 0 0) h) 2 (Q 0 0) q) 3 (Q 0 0) t) 0 0 (Q 0 0 + 1), rfl, rfl, ⟨?_, ?_, ?_, fun i hi => ?_⟩, ?_, fun i j a b => ?_⟩
            · rw [up2_s]; simp [tU]
            · rw [up2_s]; simp [tU]
            · simp [tU]; omega
            · have hi' : i < Q 0 0 + 1 := by simpa [tU] using hi
              by_cases y : i = Q 0 0
              · subst y
                refine ⟨?_, ?_, ?_, ?_, ?_, ?_, ?_, ?_, ?_⟩
                · simp (disch := omega) only [up2_s, up2_r, up2_n, upA_s, upA_r, pk_us, pk_un, cpy_n]; simp [tU]
                · simp (disch := omega) only [up2_s, up2_r, up2_n, upA_s, upA_r, pk_us, pk_un, cpy_n]; simp [tU]
                · simp (disch := omega) only [up2_s, up2_r, up2_n, upA_s, upA_r, pk_us, pk_un, cpy_n]; simp [tU]
                · simp (disch := omega) only [up2_s, up2_r, up2_n, upA_s, upA_r, pk_us, pk_un, cpy_n]; simp [tU]
                · simp (disch := omega) only [up2_s, up2_r, up2_n, upA_s, upA_r, pk_us, pk_un, cpy_n]; simp [tU]
                · simp (disch := omega) only [up2_s, up2_r, up2_n, upA_s, upA_r, pk_us, pk_un, cpy_n]; simp [tU]
                · simpa [tU] using hh
                · simpa [tU] using hq
                · simpa [tU] using c
              · obtain ⟨u1, u2, u3, u4, u5, u6, u7, u8, u9⟩ := v4 i (by omega)
                refine ⟨?_, ?_, ?_, ?_, ?_, ?_, ?_, ?_, ?_⟩
                · simp (disch := omega) only [up2_s, up2_r, up2_n, upA_s, upA_r, pk_us, pk_un, cpy_n, u1]; simp [tU, y]
                · simp (disch := omega) only [up2_s, up2_r, up2_n, upA_s, upA_r, pk_us, pk_un, cpy_n, u2]; simp [tU, y]
                · simp (disch := omega) only [up2_s, up2_r, up2_n, upA_s, upA_r, pk_us, pk_un, cpy_n, u3]; simp [tU, y]
                · simp (disch := omega) only [up2_s, up2_r, up2_n, upA_s, upA_r, pk_us, pk_un, cpy_n, u4]; simp [tU, y]
                · simp (disch := omega) only [up2_s, up2_r, up2_n, upA_s, upA_r, pk_us, pk_un, cpy_n, u5]; simp [tU, y]
                · simp (disch := omega) only [up2_s, up2_r, up2_n, upA_s, upA_r, pk_us, pk_un, cpy_n, u6]; simp [tU, y]
                · simpa [tU, y] using u7
                · simpa [tU, y] using u8
                · simpa [tU, y] using u9
            · simp (disch := omega) only [up2_s, up2_r, up2_n, upA_s, upA_r, pk_us, pk_un, cpy_n]
            · by_cases y : i = 0
              · subst y; rw [up2_n (b rfl), upA_r (by decide), upA_r (by decide), upA_r (by decide)]
              · rw [up2_r y, upA_r a, upA_r a, upA_r a]
          · have : Q 0 0 = 8 := by omega
            simp (disch := omega) only [nm, jn0, jn1, jn2, jn3, jn4, jn5, bnd1_s, bnd2_s, bnd3_s, bnd4_s, lit_n, neg1, chkI_n, chkZ_n, chkC_n, bI_B, chkB_0, chkB_1, bI_t, bI_f, clamp_n, nI_add, subn, remn2, nat_rem, divn, pk_mul, ifle_t, ifle_f, iflt_t, iflt_f, ifeq_t, ifeq_f, ifm_f, ifm_t, if_true, if_false, h1, h2, g1, g2, e, v1, v2]
            exact ⟨_, _, _, Q, rfl, rfl, hV, rfl, fun _ _ _ _ => rfl⟩
        · rw [decide_eq_false (by omega)] at e
          simp (disch := omega) only [nm, jn0, jn1, jn2, jn3, jn4, jn5, bnd1_s, bnd2_s, bnd3_s, bnd4_s, lit_n, neg1, chkI_n, chkZ_n, chkC_n, bI_B, chkB_0, chkB_1, bI_t, bI_f, clamp_n, nI_add, subn, remn2, nat_rem, divn, pk_mul, ifle_t, ifle_f, iflt_t, iflt_f, ifeq_t, ifeq_f, ifm_f, ifm_t, if_true, if_false, h1, h2, g1, g2, e]
          exact ⟨_, _, _, Q, rfl, rfl, hV, rfl, fun _ _ _ _ => rfl⟩
theorem f_forget {nS mM : GS} {T Q : NN} (hV : SV nS mM T Q) : ∃ r nS' m' Q', MX4_forget nS = some (r, nS') ∧ MX5_forget mM = some (r, m') ∧ SV nS' m' T Q' ∧ (nS' 2 = nS 2) ∧ (∀ i j, (i = 0 → j ≠ 30) → m' i j = mM i j) := by
  obtain ⟨v1, v2, v3, v4⟩ := hV
  unfold MX4_forget MX5_forget
  simp (disch := omega) only [nm, jn0, jn1, jn2, jn3, jn4, jn5, bnd1_s, bnd2_s, bnd3_s, bnd4_s, lit_n, neg1, chkI_n, chkZ_n, chkC_n, bI_B, chkB_0, chkB_1, bI_t, bI_f, clamp_n, nI_add, subn, remn2, nat_rem, divn, pk_mul, ifle_t, ifle_f, iflt_t, iflt_f, ifeq_t, ifeq_f, ifm_f, ifm_t, if_true, if_false, v1, v2]
  refine ⟨_, _, _, tU Q 0 0 0, rfl, rfl, ⟨?_, ?_, ?_, fun i hi => ?_⟩, ?_, fun i j a => ?_⟩
  · rw [up2_s]; simp [tU]
  · rw [up2_s]; simp [tU]
  · simp [tU]
  · simp [tU] at hi
  · rw [up2_r (by decide)]
  · by_cases y : i = 0
    · subst y; rw [up2_n (a rfl)]
    · rw [up2_r y]
theorem f_erase {xT mM : GS} {L : Nat} {Bt : Nat → Nat} (hX : TV xT mM L Bt) : ∃ r xT' m' L', MX4_erase xT = some (r, xT') ∧ MX5_erase mM = some (r, m') ∧ TV xT' m' L' Bt ∧ (∀ i j, (i = 0 → j ≠ 11) → m' i j = mM i j) := by
  obtain ⟨v1, v2, v3, v4⟩ := hX
  unfold MX4_erase MX5_erase
  simp (disch := omega) only [nm, jn0, jn1, jn2, jn3, jn4, jn5, bnd1_s, bnd2_s, bnd3_s, bnd4_s, lit_n, neg1, chkI_n, chkZ_n, chkC_n, bI_B, chkB_0, chkB_1, bI_t, bI_f, clamp_n, nI_add, subn, remn2, nat_rem, divn, pk_mul, ifle_t, ifle_f, iflt_t, iflt_f, ifeq_t, ifeq_f, ifm_f, ifm_t, if_true, if_false, v1, v2]
  refine ⟨_, _, _, 0, rfl, rfl, ⟨up2_s, up2_s, Nat.zero_le _, fun i hi => absurd hi (Nat.not_lt_zero _)⟩, fun i j a => ?_⟩
  by_cases y : i = 0
  · subst y; rw [up2_n (a rfl)]
  · rw [up2_r y]
theorem byteN (x : Int64) : ∃ b, b < 256 ∧ (x &&& (255 : Int64)).toInt32 = nI b := by
  obtain ⟨n, hn, rfl⟩ := wb_of x
  refine ⟨n % 256, Nat.mod_lt _ (by decide), ?_⟩
  have : lN n &&& (255 : Int64) = lN (n % 256) := by
    have h := wb_and (a := n) (b := 255) hn (by decide)
    rw [show (255 : Nat) = 2 ^ 8 - 1 from rfl, Nat.and_two_pow_sub_one_eq_mod] at h
    exact h
  rw [this, lN_i]
theorem f_write {xT mM : GS} {L : Nat} {Bt : Nat → Nat} (hX : TV xT mM L Bt) (i1 : Int64) (i2 : Int32) : ∃ r xT' m' L' Bt', MX4_write xT i1 i2 = some (r, xT') ∧ MX5_write mM i1 i2 = some (r, m') ∧ TV xT' m' L' Bt' ∧ (∀ i j, i ≠ 6 → (i = 0 → j ≠ 11) → m' i j = mM i j) := by
  have hX' := hX
  obtain ⟨v1, v2, v3, v4⟩ := hX'
  unfold MX4_write MX5_write MX2_append
  rcases arg i2 with z | ⟨n, hn, rfl⟩
  · have e := r_inN (i := i2) (hi := nI 8) (lo := 1) z (by decide)
    simp (disch := omega) only [nm, jn0, jn1, jn2, jn3, jn4, jn5, bnd1_s, bnd2_s, bnd3_s, bnd4_s, lit_n, neg1, chkI_n, chkZ_n, chkC_n, bI_B, chkB_0, chkB_1, bI_t, bI_f, clamp_n, nI_add, subn, remn2, nat_rem, divn, pk_mul, ifle_t, ifle_f, iflt_t, iflt_f, ifeq_t, ifeq_f, ifm_f, ifm_t, if_true, if_false, e, ifneg z]
    exact ⟨_, _, _, L, Bt, rfl, rfl, hX, fun _ _ _ _ => rfl⟩
  · have e := r_in (k := n) (lo := 1) (hi := 8) hn (by decide) (by decide)
    by_cases c : 1 ≤ n ∧ n ≤ 8
    · rw [decide_eq_true c] at e
      by_cases d : L + n ≤ 200
      · obtain ⟨w, hw⟩ : ∃ w : Nat → Nat, ∀ i, w i < 256 ∧ ((i1 >>> (((8 : Int32) * nI i).toInt64 &&& 63)) &&& (255 : Int64)).toInt32 = nI (w i) := ⟨fun i => (byteN (i1 >>> (((8 : Int32) * nI i).toInt64 &&& 63))).choose, fun i => (byteN (i1 >>> (((8 : Int32) * nI i).toInt64 &&& 63))).choose_spec⟩
        have cls : ∃ xT', MX4_write xT i1 (nI n) = some (nI (L + n), xT') ∧ xT' 0 1 = nI (L + n) ∧ ∀ i, i < L + n → xT' 1 i = nI (if i < L then Bt i else w (i - L)) := by
          unfold MX4_write MX2_append
          simp (disch := omega) only [nm, jn0, jn1, jn2, jn3, jn4, jn5, bnd1_s, bnd2_s, bnd3_s, bnd4_s, lit_n, neg1, chkI_n, chkZ_n, chkC_n, bI_B, chkB_0, chkB_1, bI_t, bI_f, clamp_n, nI_add, subn, remn2, nat_rem, divn, pk_mul, ifle_t, ifle_f, iflt_t, iflt_f, ifeq_t, ifeq_f, ifm_f, ifm_t, if_true, if_false, v1]
          rw [show (bnd2 (lq2 (BX2_append_17 (nI n) (fun xT_2 => some (nI 1, up2 xT_2 0 1 (xT_2 0 1 + nI n))) i1) FU (nI 0) xT) fun r4 xT_5 => if r4 = nI 0 then some (-nI 5, xT_5) else some (xT_5 0 1, xT_5)) = (bnd2 (lq2 (BX2_append_17 (nI n) (fun xT_2 => some (nI 1, up2 xT_2 0 1 (xT_2 0 1 + nI n))) i1) FU (nI 0) xT) fun r4 xT_5 => if r4 = nI 0 then some (-nI 5, xT_5) else some (xT_5 0 1, xT_5)) from rfl]
          have key : ∃ x', lq2 (BX2_append_17 (nI n) (fun xT_2 => some (nI 1, up2 xT_2 0 1 (xT_2 0 1 + nI n))) i1) FU (nI 0) xT = some (nI 1, x') ∧ x' 0 1 = nI (L + n) ∧ ∀ i, i < L + n → x' 1 i = nI (if i < L then Bt i else w (i - L)) := by
            refine lq2_rel (fun i x (g : GS) => x = nI i ∧ g 0 1 = nI L ∧ ∀ k, k < L + i → g 1 k = nI (if k < L then Bt k else w (k - L))) n (fun r => ∃ x' : GS, r = some (nI 1, x') ∧ x' 0 1 = nI (L + n) ∧ ∀ i, i < L + n → x' 1 i = nI (if i < L then Bt i else w (i - L))) ?_ _ _ ⟨rfl, v1, fun k hk => by rw [if_pos (by omega)]; exact (v4 k (by omega)).1⟩ (FU_lt (by omega))
            rintro i x g hi ⟨rfl, q1, q2⟩
            by_cases y : i < n
            · refine Or.inl ⟨y, nI (i + 1), upA g 1 (upd (g 1) (L + i) (nI (w i))), ⟨rfl, by rw [upA_r (by decide)]; exact q1, fun k hk => ?_⟩, fun rec => ?_⟩
              · rw [upA_s]
                by_cases u : k = L + i
                · subst u; rw [pk_us, if_neg (by omega), show L + i - L = i by omega]
                · rw [pk_un u]; exact q2 k (by omega)
              · have hwi := (hw i).2
                unfold BX2_append_17
                rw [hwi]
                simp (disch := omega) only [nm, jn0, jn1, jn2, jn3, jn4, jn5, bnd1_s, bnd2_s, bnd3_s, bnd4_s, lit_n, neg1, chkI_n, chkZ_n, chkC_n, bI_B, chkB_0, chkB_1, bI_t, bI_f, clamp_n, nI_add, subn, remn2, nat_rem, divn, pk_mul, ifle_t, ifle_f, iflt_t, iflt_f, ifeq_t, ifeq_f, ifm_f, ifm_t, if_true, if_false, q1]
            · have : i = n := by omega
              subst this
              refine Or.inr ⟨some (nI 1, up2 g 0 1 (nI (L + i))), ⟨_, rfl, up2_s, fun k hk => ?_⟩, fun rec => ?_⟩
              · rw [up2_r (by decide)]; exact q2 k hk
              · unfold BX2_append_17
                simp (disch := omega) only [nm, jn0, jn1, jn2, jn3, jn4, jn5, bnd1_s, bnd2_s, bnd3_s, bnd4_s, lit_n, neg1, chkI_n, chkZ_n, chkC_n, bI_B, chkB_0, chkB_1, bI_t, bI_f, clamp_n, nI_add, subn, remn2, nat_rem, divn, pk_mul, ifle_t, ifle_f, iflt_t, iflt_f, ifeq_t, ifeq_f, ifm_f, ifm_t, if_true, if_false, q1]
          obtain ⟨x', k1, k2, k3⟩ := key
          rw [k1]
          simp (disch := omega) only [nm, jn0, jn1, jn2, jn3, jn4, jn5, bnd1_s, bnd2_s, bnd3_s, bnd4_s, lit_n, neg1, chkI_n, chkZ_n, chkC_n, bI_B, chkB_0, chkB_1, bI_t, bI_f, clamp_n, nI_add, subn, remn2, nat_rem, divn, pk_mul, ifle_t, ifle_f, iflt_t, iflt_f, ifeq_t, ifeq_f, ifm_f, ifm_t, if_true, if_false, k2]
          exact ⟨x', rfl, k2, k3⟩
        have ref : ∃ m', MX5_write mM i1 (nI n) = some (nI (L + n), m') ∧ (∀ i j, i ≠ 6 → (i = 0 → j ≠ 11) → m' i j = mM i j) ∧ m' 0 11 = nI (L + n) ∧ ∀ i, i < L + n → m' 6 i = nI (if i < L then Bt i else w (i - L)) := by
          unfold MX5_write
          simp (disch := omega) only [nm, jn0, jn1, jn2, jn3, jn4, jn5, bnd1_s, bnd2_s, bnd3_s, bnd4_s, lit_n, neg1, chkI_n, chkZ_n, chkC_n, bI_B, chkB_0, chkB_1, bI_t, bI_f, clamp_n, nI_add, subn, remn2, nat_rem, divn, pk_mul, ifle_t, ifle_f, iflt_t, iflt_f, ifeq_t, ifeq_f, ifm_f, ifm_t, if_true, if_false, e, v2]
          refine lq2_rel (fun i x (g : GS) => x = nI i ∧ (∀ a j, a ≠ 6 → g a j = mM a j) ∧ ∀ k, k < L + i → g 6 k = nI (if k < L then Bt k else w (k - L))) n (fun r => ∃ m' : GS, r = some (nI (L + n), m') ∧ (∀ i j, i ≠ 6 → (i = 0 → j ≠ 11) → m' i j = mM i j) ∧ m' 0 11 = nI (L + n) ∧ ∀ i, i < L + n → m' 6 i = nI (if i < L then Bt i else w (i - L))) ?_ _ _ ⟨rfl, fun _ _ _ => rfl, fun k hk => by rw [if_pos (by omega)]; exact (v4 k (by omega)).2.1⟩ (FU_lt (by omega))
          rintro i x g hi ⟨rfl, q1, q2⟩
          have g11 : g 0 11 = nI L := by rw [q1 0 11 (by decide)]; exact v2
          by_cases y : i < n
          · refine Or.inl ⟨y, nI (i + 1), upA g 6 (upd (g 6) (L + i) (nI (w i))), ⟨rfl, fun a j k => by rw [upA_r k]; exact q1 a j k, fun k hk => ?_⟩, fun rec => ?_⟩
            · rw [upA_s]
              by_cases u : k = L + i
              · subst u; rw [pk_us, if_neg (by omega), show L + i - L = i by omega]
              · rw [pk_un u]; exact q2 k (by omega)
            · have hwi := (hw i).2
              unfold BX5_write_31
              rw [hwi]
              simp (disch := omega) only [nm, jn0, jn1, jn2, jn3, jn4, jn5, bnd1_s, bnd2_s, bnd3_s, bnd4_s, lit_n, neg1, chkI_n, chkZ_n, chkC_n, bI_B, chkB_0, chkB_1, bI_t, bI_f, clamp_n, nI_add, subn, remn2, nat_rem, divn, pk_mul, ifle_t, ifle_f, iflt_t, iflt_f, ifeq_t, ifeq_f, ifm_f, ifm_t, if_true, if_false, g11]
          · have : i = n := by omega
            subst this
            refine Or.inr ⟨some (nI (L + i), up2 g 0 11 (nI (L + i))), ⟨_, rfl, fun a j k l => ?_, up2_s, fun k hk => ?_⟩, fun rec => ?_⟩
            · by_cases u : a = 0
              · subst u; rw [up2_n (l rfl)]; exact q1 _ _ k
              · rw [up2_r u]; exact q1 a j k
            · rw [up2_r (by decide)]; exact q2 k hk
            · unfold BX5_write_31
              simp (disch := omega) only [nm, jn0, jn1, jn2, jn3, jn4, jn5, bnd1_s, bnd2_s, bnd3_s, bnd4_s, lit_n, neg1, chkI_n, chkZ_n, chkC_n, bI_B, chkB_0, chkB_1, bI_t, bI_f, clamp_n, nI_add, subn, remn2, nat_rem, divn, pk_mul, ifle_t, ifle_f, iflt_t, iflt_f, ifeq_t, ifeq_f, ifm_f, ifm_t, if_true, if_false, g11, up2_s]
        obtain ⟨xT', c1, c2, c3⟩ := cls
        obtain ⟨m', r1, r2, r3, r4⟩ := ref
        unfold MX4_write MX2_append at c1
        unfold MX5_write at r1
        refine ⟨_, xT', m', L + n, fun i => if i < L then Bt i else w (i - L), c1, r1, ⟨c2, r3, d, fun i hi => ⟨c3 i hi, r4 i hi, ?_⟩⟩, r2⟩
        show (if i < L then Bt i else w (i - L)) < 256
        by_cases u : i < L
        · rw [if_pos u]; exact (v4 i u).2.2
        · rw [if_neg u]; exact (hw _).1
      · simp (disch := omega) only [nm, jn0, jn1, jn2, jn3, jn4, jn5, bnd1_s, bnd2_s, bnd3_s, bnd4_s, lit_n, neg1, chkI_n, chkZ_n, chkC_n, bI_B, chkB_0, chkB_1, bI_t, bI_f, clamp_n, nI_add, subn, remn2, nat_rem, divn, pk_mul, ifle_t, ifle_f, iflt_t, iflt_f, ifeq_t, ifeq_f, ifm_f, ifm_t, if_true, if_false, e, v1, v2]
        exact ⟨_, _, _, L, Bt, rfl, rfl, hX, fun _ _ _ _ => rfl⟩
    · rw [decide_eq_false c] at e
      by_cases d : n < 1
      · simp (disch := omega) only [nm, jn0, jn1, jn2, jn3, jn4, jn5, bnd1_s, bnd2_s, bnd3_s, bnd4_s, lit_n, neg1, chkI_n, chkZ_n, chkC_n, bI_B, chkB_0, chkB_1, bI_t, bI_f, clamp_n, nI_add, subn, remn2, nat_rem, divn, pk_mul, ifle_t, ifle_f, iflt_t, iflt_f, ifeq_t, ifeq_f, ifm_f, ifm_t, if_true, if_false, e]
        exact ⟨_, _, _, L, Bt, rfl, rfl, hX, fun _ _ _ _ => rfl⟩
      · simp (disch := omega) only [nm, jn0, jn1, jn2, jn3, jn4, jn5, bnd1_s, bnd2_s, bnd3_s, bnd4_s, lit_n, neg1, chkI_n, chkZ_n, chkC_n, bI_B, chkB_0, chkB_1, bI_t, bI_f, clamp_n, nI_add, subn, remn2, nat_rem, divn, pk_mul, ifle_t, ifle_f, iflt_t, iflt_f, ifeq_t, ifeq_f, ifm_f, ifm_t, if_true, if_false, e]
        exact ⟨_, _, _, L, Bt, rfl, rfl, hX, fun _ _ _ _ => rfl⟩
theorem f_count {nS tT xT gN mM : GS} {T S Q : NN} {L : Nat} {Bt : Nat → Nat} (hB : BV tT gN mM T S) (hV : SV nS mM T Q) (hX : TV xT mM L Bt) (i1 : Int32) : ∃ r, MX4_count nS tT xT gN i1 = some r ∧ MX5_count mM i1 = some r := by
  obtain ⟨hT, hI, hR, hS, hNb, hM, hN⟩ := hB
  have i1' := hI.1.2.1
  have t4l := hI.1.2.2.2.2.2.1
  have hA := p_allPlots hT hI
  have hf := r_full hM hI hN.1 hS.1
  have hz : 0 < 2 ^ T 0 0 := Nat.two_pow_pos _
  obtain ⟨⟨t0, t1, t2, t3, t4, t5, -⟩, -⟩ := hT
  obtain ⟨⟨m0, m1, m2, m3, m4, m5⟩, -⟩ := hM
  obtain ⟨r1, r2, r4, r5, r6, r7, r8⟩ := hR
  obtain ⟨n1, n2, n3, n4, n5⟩ := hN
  have v1 := hV.1
  have v2 := hV.2.1
  have x1 := hX.1
  have x2 := hX.2.1
  unfold MX4_count MX5_count
  rcases arg i1 with k | ⟨w, hw, rfl⟩
  · simp (disch := omega) only [nm, jn0, jn1, jn2, jn3, jn4, jn5, bnd1_s, bnd2_s, bnd3_s, bnd4_s, lit_n, neg1, chkI_n, chkZ_n, chkC_n, bI_B, chkB_0, chkB_1, bI_t, bI_f, clamp_n, nI_add, subn, remn2, nat_rem, divn, pk_mul, ifle_t, ifle_f, iflt_t, iflt_f, ifeq_t, ifeq_f, ifm_f, ifm_t, if_true, if_false, ifnegE k]
    exact ⟨_, rfl, rfl⟩
  · by_cases c : w ≤ 10
    · have hww : w = 0 ∨ w = 1 ∨ w = 2 ∨ w = 3 ∨ w = 4 ∨ w = 5 ∨ w = 6 ∨ w = 7 ∨ w = 8 ∨ w = 9 ∨ w = 10 := by omega
      rcases hww with rfl | rfl | rfl | rfl | rfl | rfl | rfl | rfl | rfl | rfl | rfl
      · simp (disch := omega) only [nm, jn0, jn1, jn2, jn3, jn4, jn5, bnd1_s, bnd2_s, bnd3_s, bnd4_s, lit_n, neg1, chkI_n, chkZ_n, chkC_n, bI_B, chkB_0, chkB_1, bI_t, bI_f, clamp_n, nI_add, subn, remn2, nat_rem, divn, pk_mul, ifle_t, ifle_f, iflt_t, iflt_f, ifeq_t, ifeq_f, ifm_f, ifm_t, if_true, if_false, t0, m0]; exact ⟨_, rfl, rfl⟩
      · simp (disch := omega) only [nm, jn0, jn1, jn2, jn3, jn4, jn5, bnd1_s, bnd2_s, bnd3_s, bnd4_s, lit_n, neg1, chkI_n, chkZ_n, chkC_n, bI_B, chkB_0, chkB_1, bI_t, bI_f, clamp_n, nI_add, subn, remn2, nat_rem, divn, pk_mul, ifle_t, ifle_f, iflt_t, iflt_f, ifeq_t, ifeq_f, ifm_f, ifm_t, if_true, if_false, t1, m1]; exact ⟨_, rfl, rfl⟩
      · simp (disch := omega) only [nm, jn0, jn1, jn2, jn3, jn4, jn5, bnd1_s, bnd2_s, bnd3_s, bnd4_s, lit_n, neg1, chkI_n, chkZ_n, chkC_n, bI_B, chkB_0, chkB_1, bI_t, bI_f, clamp_n, nI_add, subn, remn2, nat_rem, divn, pk_mul, ifle_t, ifle_f, iflt_t, iflt_f, ifeq_t, ifeq_f, ifm_f, ifm_t, if_true, if_false, t2, m2]; exact ⟨_, rfl, rfl⟩
      · simp (disch := omega) only [nm, jn0, jn1, jn2, jn3, jn4, jn5, bnd1_s, bnd2_s, bnd3_s, bnd4_s, lit_n, neg1, chkI_n, chkZ_n, chkC_n, bI_B, chkB_0, chkB_1, bI_t, bI_f, clamp_n, nI_add, subn, remn2, nat_rem, divn, pk_mul, ifle_t, ifle_f, iflt_t, iflt_f, ifeq_t, ifeq_f, ifm_f, ifm_t, if_true, if_false, t3, m3]; exact ⟨_, rfl, rfl⟩
      · simp (disch := omega) only [nm, jn0, jn1, jn2, jn3, jn4, jn5, bnd1_s, bnd2_s, bnd3_s, bnd4_s, lit_n, neg1, chkI_n, chkZ_n, chkC_n, bI_B, chkB_0, chkB_1, bI_t, bI_f, clamp_n, nI_add, subn, remn2, nat_rem, divn, pk_mul, ifle_t, ifle_f, iflt_t, iflt_f, ifeq_t, ifeq_f, ifm_f, ifm_t, if_true, if_false, t4, m4]; exact ⟨_, rfl, rfl⟩
      · simp (disch := omega) only [nm, jn0, jn1, jn2, jn3, jn4, jn5, bnd1_s, bnd2_s, bnd3_s, bnd4_s, lit_n, neg1, chkI_n, chkZ_n, chkC_n, bI_B, chkB_0, chkB_1, bI_t, bI_f, clamp_n, nI_add, subn, remn2, nat_rem, divn, pk_mul, ifle_t, ifle_f, iflt_t, iflt_f, ifeq_t, ifeq_f, ifm_f, ifm_t, if_true, if_false, r5, n3]; exact ⟨_, rfl, rfl⟩
      · by_cases d : T 0 4 = 1
        · simp (disch := omega) only [nm, jn0, jn1, jn2, jn3, jn4, jn5, bnd1_s, bnd2_s, bnd3_s, bnd4_s, lit_n, neg1, chkI_n, chkZ_n, chkC_n, bI_B, chkB_0, chkB_1, bI_t, bI_f, clamp_n, nI_add, subn, remn2, nat_rem, divn, pk_mul, ifle_t, ifle_f, iflt_t, iflt_f, ifeq_t, ifeq_f, ifm_f, ifm_t, if_true, if_false, t4, m4, r6, n4]; exact ⟨_, rfl, rfl⟩
        · simp (disch := omega) only [nm, jn0, jn1, jn2, jn3, jn4, jn5, bnd1_s, bnd2_s, bnd3_s, bnd4_s, lit_n, neg1, chkI_n, chkZ_n, chkC_n, bI_B, chkB_0, chkB_1, bI_t, bI_f, clamp_n, nI_add, subn, remn2, nat_rem, divn, pk_mul, ifle_t, ifle_f, iflt_t, iflt_f, ifeq_t, ifeq_f, ifm_f, ifm_t, if_true, if_false, t4, m4]; exact ⟨_, rfl, rfl⟩
      · by_cases d : T 0 4 = 3
        · simp (disch := omega) only [nm, jn0, jn1, jn2, jn3, jn4, jn5, bnd1_s, bnd2_s, bnd3_s, bnd4_s, lit_n, neg1, chkI_n, chkZ_n, chkC_n, bI_B, chkB_0, chkB_1, bI_t, bI_f, clamp_n, nI_add, subn, remn2, nat_rem, divn, pk_mul, ifle_t, ifle_f, iflt_t, iflt_f, ifeq_t, ifeq_f, ifm_f, ifm_t, if_true, if_false, t4, m4, r7, n5]; exact ⟨_, rfl, rfl⟩
        · simp (disch := omega) only [nm, jn0, jn1, jn2, jn3, jn4, jn5, bnd1_s, bnd2_s, bnd3_s, bnd4_s, lit_n, neg1, chkI_n, chkZ_n, chkC_n, bI_B, chkB_0, chkB_1, bI_t, bI_f, clamp_n, nI_add, subn, remn2, nat_rem, divn, pk_mul, ifle_t, ifle_f, iflt_t, iflt_f, ifeq_t, ifeq_f, ifm_f, ifm_t, if_true, if_false, t4, m4]; exact ⟨_, rfl, rfl⟩
      · simp (disch := omega) only [nm, jn0, jn1, jn2, jn3, jn4, jn5, bnd1_s, bnd2_s, bnd3_s, bnd4_s, lit_n, neg1, chkI_n, chkZ_n, chkC_n, bI_B, chkB_0, chkB_1, bI_t, bI_f, clamp_n, nI_add, subn, remn2, nat_rem, divn, pk_mul, ifle_t, ifle_f, iflt_t, iflt_f, ifeq_t, ifeq_f, ifm_f, ifm_t, if_true, if_false, v1, v2]; exact ⟨_, rfl, rfl⟩
      · simp (disch := omega) only [nm, jn0, jn1, jn2, jn3, jn4, jn5, bnd1_s, bnd2_s, bnd3_s, bnd4_s, lit_n, neg1, chkI_n, chkZ_n, chkC_n, bI_B, chkB_0, chkB_1, bI_t, bI_f, clamp_n, nI_add, subn, remn2, nat_rem, divn, pk_mul, ifle_t, ifle_f, iflt_t, iflt_f, ifeq_t, ifeq_f, ifm_f, ifm_t, if_true, if_false, hA, hf, m0, r4, shl_1, andnot]; exact ⟨_, rfl, rfl⟩
      · simp (disch := omega) only [nm, jn0, jn1, jn2, jn3, jn4, jn5, bnd1_s, bnd2_s, bnd3_s, bnd4_s, lit_n, neg1, chkI_n, chkZ_n, chkC_n, bI_B, chkB_0, chkB_1, bI_t, bI_f, clamp_n, nI_add, subn, remn2, nat_rem, divn, pk_mul, ifle_t, ifle_f, iflt_t, iflt_f, ifeq_t, ifeq_f, ifm_f, ifm_t, if_true, if_false, x1, x2]; exact ⟨_, rfl, rfl⟩
    · simp (disch := omega) only [nm, jn0, jn1, jn2, jn3, jn4, jn5, bnd1_s, bnd2_s, bnd3_s, bnd4_s, lit_n, neg1, chkI_n, chkZ_n, chkC_n, bI_B, chkB_0, chkB_1, bI_t, bI_f, clamp_n, nI_add, subn, remn2, nat_rem, divn, pk_mul, ifle_t, ifle_f, iflt_t, iflt_f, ifeq_t, ifeq_f, ifm_f, ifm_t, if_true, if_false]
      exact ⟨_, rfl, rfl⟩
