/-! the class's search, a level -/
theorem SR_s {T : NN} {tT : GS} {a b n : Nat} {By : GS → (Nat → Int64) → GS → GS → Int32 → RTy} {kI : Int32} (hT : RT tT T) (hI : IT T) (ha : a < T 0 1) (hb : b < T 0 1) (hY : SRy T tT a b n By) (hk : kI = nI (n + 1)) (hn : n + 1 ≤ 5) : SR T tT a b n (gR By kI) := by
  intro zZ lZ gS P hS hP z3 z4 hD
  have i2 := hI.1.2.2.1
  have t1 := hT.1.2.1
  have hkey := PS_key hT hI hS hP
  have ek := kk_e (T := T) (P := P) hk (by omega)
  obtain ⟨s1, s2⟩ := slK_n (kk T P (n + 1))
  have hsl : (nI (slN (kk T P (n + 1)))).toNatClampNeg = slN (kk T P (n + 1)) := nI_clamp (by omega)
  unfold gR
  simp only [jn0, jn3]
  rw [hkey, bnd1_s, ek, nm_c, nm_c, s2, chkI_n s1 (by decide), hsl]
  by_cases c : lZ (slN (kk T P (n + 1))) = kk T P (n + 1)
  · have hf := hD P (n + 1) (by omega) hn hP c
    rw [if_pos (lcmp.mpr c)]
    exact ⟨zZ, lZ, gS, by rw [hf]; rfl, hS, hD, ⟨z3, z4, fun _ _ _ => rfl⟩, fun z => by rw [hf] at z; cases z⟩
  · rw [if_neg (fun z => c (lcmp.mp z))]
    refine lq4_rel (fun i x (z : GS) (l : Nat → Int64) (g : GS) => x = nI i ∧ PS g T P ∧ DE T a b l ∧ zK a b (n + 2) zZ z ∧ fst1 (fun h => (false || hlp a b n h) && (wyF T a b false n P h).isSome) i = none) (T 0 1) (fun r => ∃ zZ' lZ' gS', r = some (bI (rc T a b false (n + 1) P), zZ', lZ', gS') ∧ PS gS' T P ∧ DE T a b lZ' ∧ zK a b (n + 2) zZ zZ' ∧ (rc T a b false (n + 1) P = true → zZ' 0 5 = nI (rl T a b false n P))) ?_ _ _ _ _ ⟨rfl, hS, hD, ⟨z3, z4, fun _ _ _ => rfl⟩, rfl⟩ (FU_lt (by omega))
    rintro i x z l g hi ⟨rfl, hg, hl, hz, hf⟩
    by_cases d : i < T 0 1
    · have hh := p_help (n := n) (h := i) hz.1 hz.2.1 (by omega) (by omega) (by omega) (by omega)
      rw [← hk] at hh
      have hs := fst1_s0 hf
      cases e : hlp a b n i with
      | false =>
        rw [e] at hh hs
        rw [if_neg (by simp)] at hs
        refine Or.inl ⟨d, nI (i + 1), z, l, g, ⟨rfl, hg, hl, hz, hs⟩, fun rec => ?_⟩
        unfold gRB
        simp (disch := omega) only [nm, jn0, jn1, jn2, jn3, jn4, jn5, bnd1_s, bnd2_s, bnd3_s, bnd4_s, lit_n, neg1, chkI_n, chkZ_n, chkC_n, bI_B, chkB_0, chkB_1, bI_t, bI_f, clamp_n, nI_add, subn, remn2, nat_rem, divn, pk_mul, ifle_t, ifle_f, iflt_t, iflt_f, ifeq_t, ifeq_f, ifm_f, ifm_t, if_true, if_false, t1, hh]
      | true =>
        rw [e] at hh hs
        obtain ⟨z', l', g', r1, r2, r3, r4, r5⟩ := hY z l g P i hg hP hz.1 hz.2.1 hl d
        cases f : (wyF T a b false n P i).isSome with
        | false =>
          rw [f] at r1 hs
          rw [if_neg (by simp)] at hs
          refine Or.inl ⟨d, nI (i + 1), z', l', g', ⟨rfl, r2, r3, hz.trans r4, hs⟩, fun rec => ?_⟩
          unfold gRB
          simp (disch := omega) only [nm, jn0, jn1, jn2, jn3, jn4, jn5, bnd1_s, bnd2_s, bnd3_s, bnd4_s, lit_n, neg1, chkI_n, chkZ_n, chkC_n, bI_B, chkB_0, chkB_1, bI_t, bI_f, clamp_n, nI_add, subn, remn2, nat_rem, divn, pk_mul, ifle_t, ifle_f, iflt_t, iflt_f, ifeq_t, ifeq_f, ifm_f, ifm_t, if_true, if_false, t1, hh, r1]
        | true =>
          rw [f] at r1 hs
          rw [if_pos (by simp)] at hs
          have hh2 : hsF T a b false n P = some i := fst1_mono hs d
          have hrc : rc T a b false (n + 1) P = true := by rw [rc_s, hh2]; rfl
          obtain ⟨q, hq⟩ := Option.isSome_iff_exists.mp f
          refine Or.inr ⟨some (nI 1, z', l', g'), ⟨_, l', g', by rw [hrc]; rfl, r2, r3, hz.trans r4, fun _ => ?_⟩, fun rec => ?_⟩
          · rw [r5 q hq]
            unfold rl
            rw [hh2]
            show _ = nI (match wyF T a b false n P i with | none => 0 | some j => 20 * i + wy T P i j)
            rw [hq]
          · unfold gRB
            simp (disch := omega) only [nm, jn0, jn1, jn2, jn3, jn4, jn5, bnd1_s, bnd2_s, bnd3_s, bnd4_s, lit_n, neg1, chkI_n, chkZ_n, chkC_n, bI_B, chkB_0, chkB_1, bI_t, bI_f, clamp_n, nI_add, subn, remn2, nat_rem, divn, pk_mul, ifle_t, ifle_f, iflt_t, iflt_f, ifeq_t, ifeq_f, ifm_f, ifm_t, if_true, if_false, t1, hh, r1]
    · have : i = T 0 1 := by omega
      subst this
      have hrc : rc T a b false (n + 1) P = false := by
        rw [rc_s]
        unfold hsF
        rw [hf]; rfl
      refine Or.inr ⟨some (nI 0, z, vp_updL l (slN (kk T P (n + 1))) (kk T P (n + 1)), g), ⟨z, _, g, by rw [hrc]; rfl, hg, DE_put hI ha hb hl hP (by omega) hrc, hz, fun y => by rw [hrc] at y; cases y⟩, fun rec => ?_⟩
      unfold gRB
      simp (disch := omega) only [nm, jn0, jn1, jn2, jn3, jn4, jn5, bnd1_s, bnd2_s, bnd3_s, bnd4_s, lit_n, neg1, chkI_n, chkZ_n, chkC_n, bI_B, chkB_0, chkB_1, bI_t, bI_f, clamp_n, nI_add, subn, remn2, nat_rem, divn, pk_mul, ifle_t, ifle_f, iflt_t, iflt_f, ifeq_t, ifeq_f, ifm_f, ifm_t, if_true, if_false, t1, hsl]
theorem SR_1 {T : NN} {tT : GS} {a b : Nat} (hT : RT tT T) (hI : IT T) (ha : a < T 0 1) (hb : b < T 0 1) : SR T tT a b 0 MX0_reaches_1 := by
  intro zZ lZ gS P hS hP z3 z4 hD
  have i2 := hI.1.2.2.1
  have t1 := hT.1.2.1
  have hkey := PS_key hT hI hS hP
  have ek := kk_e (T := T) (P := P) (show (1 : Int32) = nI 1 from rfl) (by omega)
  obtain ⟨s1, s2⟩ := slK_n (kk T P 1)
  have hsl : (nI (slN (kk T P 1))).toNatClampNeg = slN (kk T P 1) := nI_clamp (by omega)
  have eS : ∀ y4 : Int64, (((y4 * (-7046029254386353131 : Int64)).toUInt64 >>> ((52 : Int32).toInt64.toUInt64 &&& Int64.toUInt64 63)).toInt64).toInt32 = slK y4 := fun _ => rfl
  unfold MX0_reaches_1
  simp only [jn0, jn2]
  rw [hkey, bnd1_s, ek, nm_c, nm_c, eS, s2, chkI_n s1 (by decide), hsl]
  by_cases c : lZ (slN (kk T P 1)) = kk T P 1
  · have hf := hD P 1 (by omega) (by omega) hP c
    rw [if_pos (lcmp.mpr c)]
    exact ⟨zZ, lZ, gS, by rw [hf]; rfl, hS, hD, ⟨z3, z4, fun _ _ _ => rfl⟩, fun z => by rw [hf] at z; cases z⟩
  · rw [if_neg (fun z => c (lcmp.mp z))]
    refine lq3_rel (fun i x (z : GS) (g : GS) => x = nI i ∧ PS g T P ∧ zK a b 2 zZ z ∧ fst1 (fun h => (false || hlp a b 0 h) && (wyF T a b false 0 P h).isSome) i = none) (T 0 1) (fun r => ∃ zZ' lZ' gS', r = some (bI (rc T a b false (0 + 1) P), zZ', lZ', gS') ∧ PS gS' T P ∧ DE T a b lZ' ∧ zK a b (0 + 2) zZ zZ' ∧ (rc T a b false (0 + 1) P = true → zZ' 0 5 = nI (rl T a b false 0 P))) ?_ _ _ _ ⟨rfl, hS, ⟨z3, z4, fun _ _ _ => rfl⟩, rfl⟩ (FU_lt (by omega))
    rintro i x z g hi ⟨rfl, hg, hz, hf⟩
    by_cases d : i < T 0 1
    · have hh : MX0_mayHelp z (nI i) (1 : Int32) = some (bI (hlp a b 0 i)) := p_help (n := 0) (h := i) hz.1 hz.2.1 (by omega) (by omega) (by omega) (by omega)
      have hs := fst1_s0 hf
      cases e : hlp a b 0 i with
      | false =>
        rw [e] at hh hs
        rw [if_neg (by simp)] at hs
        refine Or.inl ⟨d, nI (i + 1), z, g, ⟨rfl, hg, hz, hs⟩, fun rec => ?_⟩
        unfold BX0_reaches_1_55
        rw [hh, bnd1_s]
        simp (disch := omega) only [nm, jn0, jn1, jn2, jn3, jn4, jn5, bnd1_s, bnd2_s, bnd3_s, bnd4_s, lit_n, neg1, chkI_n, chkZ_n, chkC_n, bI_B, chkB_0, chkB_1, bI_t, bI_f, clamp_n, nI_add, subn, remn2, nat_rem, divn, pk_mul, ifle_t, ifle_f, iflt_t, iflt_f, ifeq_t, ifeq_f, ifm_f, ifm_t, if_true, if_false, t1]
      | true =>
        rw [e] at hh hs
        obtain ⟨z', g', r1, r2, r4, r5⟩ := by1 hT hI ha hb hg hP hz.1 hz.2.1 d
        cases f : (wyF T a b false 0 P i).isSome with
        | false =>
          rw [f] at r1 hs
          rw [if_neg (by simp)] at hs
          refine Or.inl ⟨d, nI (i + 1), z', g', ⟨rfl, r2, hz.trans r4, hs⟩, fun rec => ?_⟩
          unfold BX0_reaches_1_55
          rw [hh, bnd1_s]
          simp (disch := omega) only [nm, jn0, jn1, jn2, jn3, jn4, jn5, bnd1_s, bnd2_s, bnd3_s, bnd4_s, lit_n, neg1, chkI_n, chkZ_n, chkC_n, bI_B, chkB_0, chkB_1, bI_t, bI_f, clamp_n, nI_add, subn, remn2, nat_rem, divn, pk_mul, ifle_t, ifle_f, iflt_t, iflt_f, ifeq_t, ifeq_f, ifm_f, ifm_t, if_true, if_false, t1, r1]
        | true =>
          rw [f] at r1 hs
          rw [if_pos (by simp)] at hs
          have hh2 : hsF T a b false 0 P = some i := fst1_mono hs d
          have hrc : rc T a b false (0 + 1) P = true := by rw [rc_s, hh2]; rfl
          obtain ⟨q, hq⟩ := Option.isSome_iff_exists.mp f
          refine Or.inr ⟨some (nI 1, z', lZ, g'), ⟨_, lZ, g', by rw [hrc]; rfl, r2, hD, hz.trans r4, fun _ => ?_⟩, fun rec => ?_⟩
          · rw [r5 q hq]
            unfold rl
            rw [hh2]
            show _ = nI (match wyF T a b false 0 P i with | none => 0 | some j => 20 * i + wy T P i j)
            rw [hq]
          · unfold BX0_reaches_1_55
            rw [hh, bnd1_s]
            simp (disch := omega) only [nm, jn0, jn1, jn2, jn3, jn4, jn5, bnd1_s, bnd2_s, bnd3_s, bnd4_s, lit_n, neg1, chkI_n, chkZ_n, chkC_n, bI_B, chkB_0, chkB_1, bI_t, bI_f, clamp_n, nI_add, subn, remn2, nat_rem, divn, pk_mul, ifle_t, ifle_f, iflt_t, iflt_f, ifeq_t, ifeq_f, ifm_f, ifm_t, if_true, if_false, t1, r1]
    · have : i = T 0 1 := by omega
      subst this
      have hrc : rc T a b false (0 + 1) P = false := by
        rw [rc_s]
        unfold hsF
        rw [hf]; rfl
      refine Or.inr ⟨some (nI 0, z, vp_updL lZ (slN (kk T P 1)) (kk T P 1), g), ⟨z, _, g, by rw [hrc]; rfl, hg, DE_put hI ha hb hD hP (by omega) hrc, hz, fun y => by rw [hrc] at y; cases y⟩, fun rec => ?_⟩
      unfold BX0_reaches_1_55
      simp (disch := omega) only [nm, jn0, jn1, jn2, jn3, jn4, jn5, bnd1_s, bnd2_s, bnd3_s, bnd4_s, lit_n, neg1, chkI_n, chkZ_n, chkC_n, bI_B, chkB_0, chkB_1, bI_t, bI_f, clamp_n, nI_add, subn, remn2, nat_rem, divn, pk_mul, ifle_t, ifle_f, iflt_t, iflt_f, ifeq_t, ifeq_f, ifm_f, ifm_t, if_true, if_false, t1, hsl]
theorem SR_all {T : NN} {tT : GS} {a b : Nat} (hT : RT tT T) (hI : IT T) (ha : a < T 0 1) (hb : b < T 0 1) : ∀ n, n < 5 → SR T tT a b n (fun zZ lZ gS tT => MX0_reaches zZ lZ gS tT (nI (n + 1))) := by
  have h1 := SR_1 hT hI ha hb
  have h2 : SR T tT a b 1 MX0_reaches_2 := by rw [eR2, eBy2]; exact SR_s hT hI ha hb (SRy_s hT hI h1 rfl (by decide)) rfl (by decide)
  have h3 : SR T tT a b 2 MX0_reaches_3 := by rw [eR3, eBy3]; exact SR_s hT hI ha hb (SRy_s hT hI h2 rfl (by decide)) rfl (by decide)
  have h4 : SR T tT a b 3 MX0_reaches_4 := by rw [eR4, eBy4]; exact SR_s hT hI ha hb (SRy_s hT hI h3 rfl (by decide)) rfl (by decide)
  have h5 : SR T tT a b 4 MX0_reaches_5 := by rw [eR5, eBy5]; exact SR_s hT hI ha hb (SRy_s hT hI h4 rfl (by decide)) rfl (by decide)
  intro n hn
  have hc : n = 0 ∨ n = 1 ∨ n = 2 ∨ n = 3 ∨ n = 4 := by omega
  rcases hc with rfl | rfl | rfl | rfl | rfl
  · exact h1
  · exact h2
  · exact h3
  · exact h4
  · exact h5
