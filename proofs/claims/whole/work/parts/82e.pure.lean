theorem tot_len {T : NN} {P : Nat → Nat} (hI : IT T) : ∀ {k : Nat}, tot T P k ≤ 8 * k := by
  intro k
  induction k with
  | zero => exact Nat.le_refl _
  | succ k ih =>
    have := ways_len (P := P) (h := k) hI
    rw [tot_s]
    omega
/-- the number of the lot -/
abbrev lotX (S : NN) : Nat := 16807 * S 0 7 % 65521
abbrev lotN (T S : NN) (B : Nat) : Nat := lotX S % tot (mk T B) (S 1) (T 0 1)
abbrev lotQ (T S : NN) (B b : Nat) : Nat := (ways (mk T B) (S 1) b).getD (lotN T S B - tot (mk T B) (S 1) b) 0
theorem p_pick {gS tT : GS} {T S : NN} {B num : Nat} (hT : RT tT T) (hI : IT T) (hR : RS gS T S B) (hS : IS T S) (hB : B < 256) (hnum : num < tot (mk T B) (S 1) (T 0 1)) (fW : Nat → Int32) : ∃ f' b, lq3 (BX1_drawn_63 tT (fun (fW_9 : Nat → Int32) => some ((-1 : Int32), gS, fW_9)) gS (fun (x11 : Int32) (x12 : Int32) (fW_13 : Nat → Int32) => chkI x11 8 (some ((((20 : Int32) * x12) + (fW_13 x11.toNatClampNeg)), gS, fW_13)))) FU (nI num) (0 : Int32) fW = some (nI (20 * b + (ways (mk T B) (S 1) b).getD (num - tot (mk T B) (S 1) b) 0), gS, f') ∧ lotH (mk T B) S num = some b ∧ b < T 0 1 ∧ (ways (mk T B) (S 1) b).getD (num - tot (mk T B) (S 1) b) 0 < T 0 0 := by
  have i2 := hI.1.2.2.1
  have t1 := hT.1.2.1
  have n1 : mk T B 0 1 = T 0 1 := mk_r (by decide)
  obtain ⟨b, hb, hb1, hb2, hb3⟩ := lotH_ok (T := mk T B) (S := S) (num := num) (by rw [n1]; exact hnum)
  rw [n1] at hb1
  have htl := tot_len (P := S 1) (IT_mk (B := B) hI) (k := T 0 1)
  have hbl : num - tot (mk T B) (S 1) b < (ways (mk T B) (S 1) b).length := by rw [tot_s] at hb3; omega
  have hq := way_lt (B := B) hI hS hb1 hbl
  have hl := ways_len (P := S 1) (h := b) (IT_mk (B := B) hI)
  have key := lq3_rel (f := BX1_drawn_63 tT (fun (fW_9 : Nat → Int32) => some ((-1 : Int32), gS, fW_9)) gS (fun (x11 : Int32) (x12 : Int32) (fW_13 : Nat → Int32) => chkI x11 8 (some ((((20 : Int32) * x12) + (fW_13 x11.toNatClampNeg)), gS, fW_13)))) (fun i x y (f : Nat → Int32) => i ≤ b ∧ x = nI (num - tot (mk T B) (S 1) i) ∧ y = nI i) b (fun r => ∃ f', r = some (nI (20 * b + (ways (mk T B) (S 1) b).getD (num - tot (mk T B) (S 1) b) 0), gS, f')) ?_ (nI num) (0 : Int32) fW ⟨Nat.zero_le _, rfl, rfl⟩ (FU_lt (by omega))
  · obtain ⟨f', e⟩ := key
    exact ⟨f', b, e, hb, hb1, hq⟩
  rintro i x y f hi ⟨-, rfl, rfl⟩
  obtain ⟨f', hf, hr⟩ := p_ways hT hI hR hS hB (h := i) (by omega) f
  have hli := ways_len (P := S 1) (h := i) (IT_mk (B := B) hI)
  by_cases c : i < b
  · have hm : tot (mk T B) (S 1) (i + 1) ≤ tot (mk T B) (S 1) b := tot_mono (by omega)
    have ht : tot (mk T B) (S 1) (i + 1) = tot (mk T B) (S 1) i + (ways (mk T B) (S 1) i).length := rfl
    refine Or.inl ⟨c, nI (num - tot (mk T B) (S 1) (i + 1)), nI (i + 1), f', ⟨by omega, rfl, rfl⟩, fun rec => ?_⟩
    unfold BX1_drawn_63
    simp (disch := omega) only [nm, jn0, jn1, jn2, jn3, jn4, jn5, bnd1_s, bnd2_s, bnd3_s, bnd4_s, lit_n, neg1, chkI_n, chkZ_n, chkC_n, bI_B, chkB_0, chkB_1, bI_t, bI_f, clamp_n, nI_add, subn, remn2, nat_rem, divn, pk_mul, ifle_t, ifle_f, iflt_t, iflt_f, ifeq_t, ifeq_f, ifm_f, ifm_t, if_true, if_false, t1, hf]
    rw [show num - tot (mk T B) (S 1) i - (ways (mk T B) (S 1) i).length = num - tot (mk T B) (S 1) (i + 1) by omega]
  · have : i = b := by omega
    subst this
    have e := row_g hr hbl
    refine Or.inr ⟨_, ⟨f', rfl⟩, fun rec => ?_⟩
    unfold BX1_drawn_63
    simp (disch := omega) only [nm, jn0, jn1, jn2, jn3, jn4, jn5, bnd1_s, bnd2_s, bnd3_s, bnd4_s, lit_n, neg1, chkI_n, chkZ_n, chkC_n, bI_B, chkB_0, chkB_1, bI_t, bI_f, clamp_n, nI_add, subn, remn2, nat_rem, divn, pk_mul, ifle_t, ifle_f, iflt_t, iflt_f, ifeq_t, ifeq_f, ifm_f, ifm_t, if_true, if_false, t1, hf, e]
theorem RS_inc {gS : GS} {T S : NN} {B : Nat} (hR : RS gS T S B) : RS (up2 gS 0 5 (nI (S 0 5 + 1))) T (tU S 0 5 (S 0 5 + 1)) B := by
  obtain ⟨r1, r2, r4, r5, r6, r7, r8⟩ := hR
  have e1 : (tU S 0 5 (S 0 5 + 1)) 1 = S 1 := by funext a; simp [tU]
  refine ⟨fun a ha => ?_, fun a ha => ?_, ?_, ?_, ?_, ?_, ?_⟩
  · rw [up2_r (by decide), e1]; exact r1 a ha
  · rw [up2_r (by decide), r2 a ha]; simp [tU]
  · rw [up2_n (by decide), e1]; exact r4
  · rw [up2_s]; simp [tU]
  · rw [up2_n (by decide), r6]; simp [tU]
  · rw [up2_n (by decide), r7]; simp [tU]
  · rw [up2_n (by decide)]; exact r8
theorem RS_x {gS : GS} {T S : NN} {B x : Nat} (hR : RS gS T S B) : RS (up2 gS 0 7 (nI x)) T (tU S 0 7 x) B := by
  obtain ⟨r1, r2, r4, r5, r6, r7, r8⟩ := hR
  have e1 : (tU S 0 7 x) 1 = S 1 := by funext a; simp [tU]
  refine ⟨fun a ha => ?_, fun a ha => ?_, ?_, ?_, ?_, ?_, ?_⟩
  · rw [up2_r (by decide), e1]; exact r1 a ha
  · rw [up2_r (by decide), r2 a ha]; simp [tU]
  · rw [up2_n (by decide), e1]; exact r4
  · rw [up2_n (by decide), r5]; simp [tU]
  · rw [up2_n (by decide), r6]; simp [tU]
  · rw [up2_s]; simp [tU]
  · rw [up2_n (by decide)]; exact r8
theorem p_drawn {gS tT : GS} {T S : NN} {B : Nat} (hT : RT tT T) (hI : IT T) (hR : RS gS T S B) (hS : IS T S) (hB : B < 256) (fW : Nat → Int32) : ∃ r g' f', MX1_drawn gS fW tT = some (r, g', f') ∧ ((tot (mk T B) (S 1) (T 0 1) = 0 ∧ r = mI ∧ g' = gS) ∨ (tot (mk T B) (S 1) (T 0 1) ≠ 0 ∧ ∃ b, lotH (mk T B) S (lotN T S B) = some b ∧ b < T 0 1 ∧ lotQ T S B b < T 0 0 ∧ r = nI (20 * b + lotQ T S B b) ∧ g' = up2 gS 0 7 (nI (lotX S)))) := by
  have i2 := hI.1.2.2.1
  have t1 := hT.1.2.1
  have n1 : mk T B 0 1 = T 0 1 := mk_r (by decide)
  have htl := tot_len (P := S 1) (IT_mk (B := B) hI) (k := T 0 1)
  have r7 := hR.2.2.2.2.2.1
  have hx := hS.2.2.2.1
  unfold MX1_drawn jn2
  refine lq3_rel (fun i x y (f : Nat → Int32) => x = nI (tot (mk T B) (S 1) i) ∧ y = nI i) (T 0 1) (fun rr => ∃ r g' f', rr = some (r, g', f') ∧ ((tot (mk T B) (S 1) (T 0 1) = 0 ∧ r = mI ∧ g' = gS) ∨ (tot (mk T B) (S 1) (T 0 1) ≠ 0 ∧ ∃ b, lotH (mk T B) S (lotN T S B) = some b ∧ b < T 0 1 ∧ lotQ T S B b < T 0 0 ∧ r = nI (20 * b + lotQ T S B b) ∧ g' = up2 gS 0 7 (nI (lotX S))))) ?_ _ _ _ ⟨rfl, rfl⟩ (FU_lt (by omega))
  rintro i x y f hi ⟨rfl, rfl⟩
  by_cases c : i < T 0 1
  · obtain ⟨f', hf, hr⟩ := p_ways hT hI hR hS hB (h := i) c f
    refine Or.inl ⟨c, nI (tot (mk T B) (S 1) (i + 1)), nI (i + 1), f', ⟨rfl, rfl⟩, fun rec => ?_⟩
    unfold BX1_drawn_4
    simp (disch := omega) only [nm, jn0, jn1, jn2, jn3, jn4, jn5, bnd1_s, bnd2_s, bnd3_s, bnd4_s, lit_n, neg1, chkI_n, chkZ_n, chkC_n, bI_B, chkB_0, chkB_1, bI_t, bI_f, clamp_n, nI_add, subn, remn2, nat_rem, divn, pk_mul, ifle_t, ifle_f, iflt_t, iflt_f, ifeq_t, ifeq_f, ifm_f, ifm_t, if_true, if_false, t1, hf]
    rfl
  · have : i = T 0 1 := by omega
    subst this
    by_cases d : tot (mk T B) (S 1) (T 0 1) = 0
    · refine Or.inr ⟨some (mI, gS, f), ⟨mI, gS, f, rfl, Or.inl ⟨d, rfl, rfl⟩⟩, fun rec => ?_⟩
      unfold BX1_drawn_4
      simp (disch := omega) only [nm, jn0, jn1, jn2, jn3, jn4, jn5, bnd1_s, bnd2_s, bnd3_s, bnd4_s, lit_n, neg1, chkI_n, chkZ_n, chkC_n, bI_B, chkB_0, chkB_1, bI_t, bI_f, clamp_n, nI_add, subn, remn2, nat_rem, divn, pk_mul, ifle_t, ifle_f, iflt_t, iflt_f, ifeq_t, ifeq_f, ifm_f, ifm_t, if_true, if_false, t1, d]
    · have hm : lotX S < 65521 := Nat.mod_lt _ (by decide)
      have e1 : (tU S 0 7 (lotX S)) 1 = S 1 := by funext a; simp [tU]
      have hlt : lotN T S B < tot (mk T B) (S 1) (T 0 1) := Nat.mod_lt _ (by omega)
      obtain ⟨f', b, q1, q2, q3, q4⟩ := p_pick hT hI (RS_x (x := lotX S) hR) (IS_x hS hm) hB (num := lotN T S B) (by rw [e1]; exact hlt) f
      rw [e1] at q1 q4
      have q2' : lotH (mk T B) S (lotN T S B) = some b := by
        unfold lotH at q2 ⊢
        rw [e1] at q2
        exact q2
      refine Or.inr ⟨some (nI (20 * b + lotQ T S B b), up2 gS 0 7 (nI (lotX S)), f'), ⟨_, _, f', rfl, Or.inr ⟨d, b, q2', q3, q4, rfl, rfl⟩⟩, fun rec => ?_⟩
      unfold BX1_drawn_4
      simp (disch := omega) only [nm, jn0, jn1, jn2, jn3, jn4, jn5, bnd1_s, bnd2_s, bnd3_s, bnd4_s, lit_n, neg1, chkI_n, chkZ_n, chkC_n, bI_B, chkB_0, chkB_1, bI_t, bI_f, clamp_n, nI_add, subn, remn2, nat_rem, divn, pk_mul, ifle_t, ifle_f, iflt_t, iflt_f, ifeq_t, ifeq_f, ifm_f, ifm_t, if_true, if_false] at q1
      simp (disch := omega) only [nm, jn0, jn1, jn2, jn3, jn4, jn5, bnd1_s, bnd2_s, bnd3_s, bnd4_s, lit_n, neg1, chkI_n, chkZ_n, chkC_n, bI_B, chkB_0, chkB_1, bI_t, bI_f, clamp_n, nI_add, subn, remn2, nat_rem, divn, pk_mul, ifle_t, ifle_f, iflt_t, iflt_f, ifeq_t, ifeq_f, ifm_f, ifm_t, if_true, if_false, t1, r7]
      simp (disch := omega) only [nm, jn0, jn1, jn2, jn3, jn4, jn5, bnd1_s, bnd2_s, bnd3_s, bnd4_s, lit_n, neg1, chkI_n, chkZ_n, chkC_n, bI_B, chkB_0, chkB_1, bI_t, bI_f, clamp_n, nI_add, subn, remn2, nat_rem, divn, pk_mul, ifle_t, ifle_f, iflt_t, iflt_f, ifeq_t, ifeq_f, ifm_f, ifm_t, if_true, if_false, up2_s, q1]
theorem p_passNight {gS tT : GS} {T S : NN} {B law : Nat} (hT : RT tT T) (hI : IT T) (hR : RS gS T S B) (hS : IS T S) (hN : S 0 5 < 100000) (hB : B < 256) (hlaw : law ≤ 3) (fW : Nat → Int32) : ∃ g' f', MX1_passNight gS fW tT (nI law) = some (g', f') ∧ RS g' T (night (mk T B) law S) B := by
  have i1 := hI.1.2.1
  have i2 := hI.1.2.2.1
  have r5 := hR.2.2.2.1
  have r6 := hR.2.2.2.2.1
  have n1 : mk T B 0 1 = T 0 1 := mk_r (by decide)
  have hu := hS.2.2.1
  by_cases c3 : law = 3
  · subst c3
    obtain ⟨r, g1, f1, h1, h2⟩ := p_drawn hT hI hR hS hB fW
    unfold night
    rw [if_pos rfl, n1]
    rcases h2 with ⟨d, rfl, rfl⟩ | ⟨d, b, hb, hb1, hq, rfl, rfl⟩
    · rw [if_pos d]
      refine ⟨up2 g1 0 5 (nI (S 0 5 + 1)), f1, ?_, RS_inc hR⟩
      unfold MX1_passNight
      simp (disch := omega) only [nm, jn0, jn1, jn2, jn3, jn4, jn5, bnd1_s, bnd2_s, bnd3_s, bnd4_s, lit_n, neg1, chkI_n, chkZ_n, chkC_n, bI_B, chkB_0, chkB_1, bI_t, bI_f, clamp_n, nI_add, subn, remn2, nat_rem, divn, pk_mul, ifle_t, ifle_f, iflt_t, iflt_f, ifeq_t, ifeq_f, ifm_f, ifm_t, if_true, if_false, h1, r5]
    · rw [if_neg d]
      have hm : lotX S < 65521 := Nat.mod_lt _ (by decide)
      have hN2 : (tU S 0 7 (lotX S)) 0 5 < 100000 := by simpa [tU] using hN
      obtain ⟨g', hp, hp2⟩ := p_passNightOf hT hI (RS_x (x := lotX S) hR) (IS_x hS hm) hN2 (law := 3) (by decide) hb1 hq
      have hp2 : RS g' T (rol (tU S 0 7 (lotX S)) b (lotQ T S B b)) B := by simpa [rolT] using hp2
      have hb' : lotH (mk T B) S (16807 * S 0 7 % 65521 % tot (mk T B) (S 1) (T 0 1)) = some b := hb
      rw [hb']
      refine ⟨g', f1, ?_, hp2⟩
      generalize lotQ T S B b = q at *
      have d1 : (20 * b + q) / 20 = b := by omega
      have d2 : 20 * b + q - b * 20 = q := by omega
      have d3 : (20 * b + q) % 20 = q := by omega
      unfold MX1_passNight
      simp (disch := omega) only [nm, jn0, jn1, jn2, jn3, jn4, jn5, bnd1_s, bnd2_s, bnd3_s, bnd4_s, lit_n, neg1, chkI_n, chkZ_n, chkC_n, bI_B, chkB_0, chkB_1, bI_t, bI_f, clamp_n, nI_add, subn, remn2, nat_rem, divn, pk_mul, ifle_t, ifle_f, iflt_t, iflt_f, ifeq_t, ifeq_f, ifm_f, ifm_t, if_true, if_false, h1, d1, d2, d3, hp]
  · have hch : ∃ f1, (law = 2 → MX1_longestRested gS fW tT = some (rlO (mk T B) (S 1) (rlr (mk T B) law S), f1)) ∧ (law = 1 → MX1_firstFrom gS fW tT (nI (S 0 6)) = some (rlO (mk T B) (S 1) (rlr (mk T B) law S), f1)) ∧ (law ≠ 1 → law ≠ 2 → MX1_firstFrom gS fW tT (nI 0) = some (rlO (mk T B) (S 1) (rlr (mk T B) law S), f1)) := by
      by_cases c2 : law = 2
      · obtain ⟨f', hf⟩ := p_longestRested hT hI hR hS hN hB fW
        refine ⟨f', fun _ => ?_, fun z => absurd z (by omega), fun _ z => absurd c2 z⟩
        unfold rlr
        rw [if_pos c2, n1]
        exact hf
      · by_cases c1 : law = 1
        · obtain ⟨f', hf⟩ := p_firstFrom hT hI hR hS hB (u := S 0 6) hu fW
          refine ⟨f', fun z => absurd z c2, fun _ => ?_, fun z => absurd c1 z⟩
          unfold rlr
          rw [if_neg c2, if_pos c1]
          exact hf
        · obtain ⟨f', hf⟩ := p_firstFrom hT hI hR hS hB (u := 0) (Or.inl rfl) fW
          refine ⟨f', fun z => absurd z c2, fun z => absurd z c1, fun _ _ => ?_⟩
          unfold rlr
          rw [if_neg c2, if_neg c1]
          exact hf
    obtain ⟨f1, k2, k1, k0⟩ := hch
    unfold night
    rw [if_neg c3]
    cases e : rlr (mk T B) law S with
    | none =>
      rw [e] at k2 k1 k0
      refine ⟨up2 gS 0 5 (nI (S 0 5 + 1)), f1, ?_, RS_inc hR⟩
      unfold MX1_passNight
      by_cases c2 : law = 2
      · have k := k2 c2
        simp (disch := omega) only [nm, jn0, jn1, jn2, jn3, jn4, jn5, bnd1_s, bnd2_s, bnd3_s, bnd4_s, lit_n, neg1, chkI_n, chkZ_n, chkC_n, bI_B, chkB_0, chkB_1, bI_t, bI_f, clamp_n, nI_add, subn, remn2, nat_rem, divn, pk_mul, ifle_t, ifle_f, iflt_t, iflt_f, ifeq_t, ifeq_f, ifm_f, ifm_t, if_true, if_false, k, rlO, r5]
      · by_cases c1 : law = 1
        · have k := k1 c1
          simp (disch := omega) only [nm, jn0, jn1, jn2, jn3, jn4, jn5, bnd1_s, bnd2_s, bnd3_s, bnd4_s, lit_n, neg1, chkI_n, chkZ_n, chkC_n, bI_B, chkB_0, chkB_1, bI_t, bI_f, clamp_n, nI_add, subn, remn2, nat_rem, divn, pk_mul, ifle_t, ifle_f, iflt_t, iflt_f, ifeq_t, ifeq_f, ifm_f, ifm_t, if_true, if_false, r6, k, rlO, r5]
        · have k := k0 c1 c2
          simp (disch := omega) only [nm, jn0, jn1, jn2, jn3, jn4, jn5, bnd1_s, bnd2_s, bnd3_s, bnd4_s, lit_n, neg1, chkI_n, chkZ_n, chkC_n, bI_B, chkB_0, chkB_1, bI_t, bI_f, clamp_n, nI_add, subn, remn2, nat_rem, divn, pk_mul, ifle_t, ifle_f, iflt_t, iflt_f, ifeq_t, ifeq_f, ifm_f, ifm_t, if_true, if_false, k, rlO, r5]
    | some b =>
      rw [e] at k2 k1 k0
      obtain ⟨hb, hw⟩ := rlr_lt e
      rw [n1] at hb
      have h0 := hasW_0 hw
      have hq := way_lt (B := B) hI hS hb h0
      obtain ⟨g', hp, hp2⟩ := p_passNightOf hT hI hR hS hN hlaw hb hq
      have hr2 : rolT (mk T B) S b ((ways (mk T B) (S 1) b).getD 0 0) law = rolT T S b ((ways (mk T B) (S 1) b).getD 0 0) law := by
        unfold rolT
        rw [n1]
      refine ⟨g', f1, ?_, by show RS g' T (rolT (mk T B) S b _ law) B; rw [hr2]; exact hp2⟩
      have k2 : law = 2 → MX1_longestRested gS fW tT = some (nI (20 * b + (ways (mk T B) (S 1) b).getD 0 0), f1) := k2
      have k1 : law = 1 → MX1_firstFrom gS fW tT (nI (S 0 6)) = some (nI (20 * b + (ways (mk T B) (S 1) b).getD 0 0), f1) := k1
      have k0 : law ≠ 1 → law ≠ 2 → MX1_firstFrom gS fW tT (nI 0) = some (nI (20 * b + (ways (mk T B) (S 1) b).getD 0 0), f1) := k0
      clear hr2 hp2
      generalize (ways (mk T B) (S 1) b).getD 0 0 = q at *
      have d1 : (20 * b + q) / 20 = b := by omega
      have d2 : 20 * b + q - b * 20 = q := by omega
      have d3 : (20 * b + q) % 20 = q := by omega
      unfold MX1_passNight
      by_cases c2 : law = 2
      · have k := k2 c2
        simp (disch := omega) only [nm, jn0, jn1, jn2, jn3, jn4, jn5, bnd1_s, bnd2_s, bnd3_s, bnd4_s, lit_n, neg1, chkI_n, chkZ_n, chkC_n, bI_B, chkB_0, chkB_1, bI_t, bI_f, clamp_n, nI_add, subn, remn2, nat_rem, divn, pk_mul, ifle_t, ifle_f, iflt_t, iflt_f, ifeq_t, ifeq_f, ifm_f, ifm_t, if_true, if_false, k, d1, d2, d3, hp]
      · by_cases c1 : law = 1
        · have k := k1 c1
          simp (disch := omega) only [nm, jn0, jn1, jn2, jn3, jn4, jn5, bnd1_s, bnd2_s, bnd3_s, bnd4_s, lit_n, neg1, chkI_n, chkZ_n, chkC_n, bI_B, chkB_0, chkB_1, bI_t, bI_f, clamp_n, nI_add, subn, remn2, nat_rem, divn, pk_mul, ifle_t, ifle_f, iflt_t, iflt_f, ifeq_t, ifeq_f, ifm_f, ifm_t, if_true, if_false, r6, k, d1, d2, d3, hp]
        · have k := k0 c1 c2
          simp (disch := omega) only [nm, jn0, jn1, jn2, jn3, jn4, jn5, bnd1_s, bnd2_s, bnd3_s, bnd4_s, lit_n, neg1, chkI_n, chkZ_n, chkC_n, bI_B, chkB_0, chkB_1, bI_t, bI_f, clamp_n, nI_add, subn, remn2, nat_rem, divn, pk_mul, ifle_t, ifle_f, iflt_t, iflt_f, ifeq_t, ifeq_f, ifm_f, ifm_t, if_true, if_false, k, d1, d2, d3, hp]
/-! who is beside whom -/
def bes (T : NN) (P : Nat → Nat) (a b : Nat) : Bool := decide (∃ q, q < T 0 0 ∧ sOn T P a q = true ∧ (sOn T P b (nx (T 0 0) q) = true ∨ sOn T P b (pv (T 0 0) q) = true))
theorem pv_nx {p q : Nat} (h : q < p) : pv p (nx p q) = q := by
  unfold nx pv
  split <;> split <;> omega
theorem arnd_t {p b i : Nat} (hp : 3 ≤ p) (hb : b < 2 ^ p) (hi : i < p) : (arnd p b).testBit i = (b.testBit (pv p i) || b.testBit (nx p i)) := by
  have big : ∀ j, p ≤ j → b.testBit j = false := fun j hj => Nat.testBit_lt_two_pow (Nat.lt_of_lt_of_le hb (Nat.pow_le_pow_right (by decide) hj))
  unfold arnd
  rw [Nat.testBit_and, Nat.testBit_or, Nat.testBit_or, Nat.testBit_or, Nat.testBit_two_pow_sub_one, Nat.testBit_mul_two_pow, Nat.testBit_mul_two_pow, Nat.testBit_div_two_pow, Nat.testBit_div_two_pow]
  simp only [hi, decide_true, Bool.and_true]
  unfold pv nx
  by_cases c0 : i = 0
  · subst c0
    have d1 : decide (1 ≤ 0) = false := by decide
    have d2 : decide (p - 1 ≤ 0) = false := by simp; omega
    rw [d1, d2, if_pos rfl, if_pos (by omega)]
    simp
  · rw [if_neg c0]
    by_cases c1 : i + 1 < p
    · rw [if_pos c1, big (i + (p - 1)) (by omega)]
      have d1 : decide (1 ≤ i) = true := by simp; omega
      have d2 : decide (p ≤ i + 1) = false := by simp; omega
      simp [d1, d2]
    · rw [if_neg c1, big (i + 1) (by omega), big (i + (p - 1)) (by omega)]
      have d1 : decide (1 ≤ i) = true := by simp; omega
      have d2 : decide (p ≤ i + 1) = true := by simp; omega
      have d3 : i - (p - 1) = 0 := by omega
      simp [d1, d2, d3]
theorem ne0_bit {n : Nat} : n ≠ 0 ↔ ∃ i, n.testBit i = true := by
  constructor
  · intro h
    exact Nat.exists_testBit_of_ne_zero h
  · rintro ⟨i, h⟩ rfl
    simp at h
theorem p_areBeside {gS tT : GS} {T : NN} (hT : RT tT T) (hI : IT T) {P : Nat → Nat} {a b : Nat} (hP : ∀ h, h < T 0 1 → gS 1 h = nI (P h)) (hl : ∀ h, h < T 0 1 → P h < T 0 0) (ha : a < T 0 1) (hb : b < T 0 1) : MX1_areBeside gS tT (nI a) (nI b) = some (bI (bes T P a b)) := by
  have i2 := hI.1.2.2.1
  have i0 := hI.1.1
  have ga := p_groundOf (gS := gS) hT hI (h := a) (by omega) (hP a ha) (hl a ha)
  have gb := p_groundOf (gS := gS) hT hI (h := b) (by omega) (hP b hb) (hl b hb)
  have la : gr (T 0 0) (T 2 a) (P a) < 2 ^ T 0 0 := gr_lt (hl a ha)
  have lb : gr (T 0 0) (T 2 b) (P b) < 2 ^ T 0 0 := gr_lt (hl b hb)
  have ar := p_around hT hI la
  have e12 := two_12 hI.1.2.1
  have lab : arnd (T 0 0) (gr (T 0 0) (T 2 a) (P a)) &&& gr (T 0 0) (T 2 b) (P b) < 2 ^ T 0 0 := Nat.and_lt_two_pow _ lb
  have hbit : ∀ j, (gr (T 0 0) (T 2 b) (P b)).testBit j = true → j < T 0 0 := by
    intro j hj
    refine Decidable.byContradiction fun z => ?_
    rw [Nat.testBit_lt_two_pow (Nat.lt_of_lt_of_le lb (Nat.pow_le_pow_right (by decide) (by omega)))] at hj
    cases hj
  have hbitA : ∀ j, (gr (T 0 0) (T 2 a) (P a)).testBit j = true → j < T 0 0 := by
    intro j hj
    refine Decidable.byContradiction fun z => ?_
    rw [Nat.testBit_lt_two_pow (Nat.lt_of_lt_of_le la (Nat.pow_le_pow_right (by decide) (by omega)))] at hj
    cases hj
  have hiff : (arnd (T 0 0) (gr (T 0 0) (T 2 a) (P a)) &&& gr (T 0 0) (T 2 b) (P b) ≠ 0) ↔ bes T P a b = true := by
    unfold bes
    rw [decide_eq_true_iff, ne0_bit]
    constructor
    · rintro ⟨i, h⟩
      rw [Nat.testBit_and, Bool.and_eq_true] at h
      have hi := hbit i h.2
      rw [arnd_t i0 la hi, Bool.or_eq_true, sOn_gr, sOn_gr] at h
      rw [sOn_gr] at h
      rcases h.1 with h1 | h1
      · exact ⟨_, pv_lt hi, h1, Or.inl (by rw [nx_pv hi]; exact h.2)⟩
      · exact ⟨_, nx_lt (by omega), h1, Or.inr (by rw [pv_nx hi]; exact h.2)⟩
    · rintro ⟨q, hq, h1, h2⟩
      rcases h2 with h2 | h2
      · refine ⟨nx (T 0 0) q, ?_⟩
        rw [Nat.testBit_and, Bool.and_eq_true, arnd_t i0 la (nx_lt (by omega)), Bool.or_eq_true, sOn_gr, sOn_gr, sOn_gr, pv_nx hq]
        exact ⟨Or.inl h1, h2⟩
      · refine ⟨pv (T 0 0) q, ?_⟩
        rw [Nat.testBit_and, Bool.and_eq_true, arnd_t i0 la (pv_lt hq), Bool.or_eq_true, sOn_gr, sOn_gr, sOn_gr, nx_pv hq]
        exact ⟨Or.inr h1, h2⟩
  unfold MX1_areBeside
  cases e : bes T P a b with
  | true =>
    have := hiff.mpr e
    simp (disch := omega) only [nm, jn0, jn1, jn2, jn3, jn4, jn5, bnd1_s, bnd2_s, bnd3_s, bnd4_s, lit_n, neg1, chkI_n, chkZ_n, chkC_n, bI_B, chkB_0, chkB_1, bI_t, bI_f, clamp_n, nI_add, subn, remn2, nat_rem, divn, pk_mul, ifle_t, ifle_f, iflt_t, iflt_f, ifeq_t, ifeq_f, ifm_f, ifm_t, if_true, if_false, ga, ar, gb, fa_and]
  | false =>
    have : arnd (T 0 0) (gr (T 0 0) (T 2 a) (P a)) &&& gr (T 0 0) (T 2 b) (P b) = 0 := Decidable.byContradiction fun z => by
      have := hiff.mp z
      rw [e] at this; cases this
    simp (disch := omega) only [nm, jn0, jn1, jn2, jn3, jn4, jn5, bnd1_s, bnd2_s, bnd3_s, bnd4_s, lit_n, neg1, chkI_n, chkZ_n, chkC_n, bI_B, chkB_0, chkB_1, bI_t, bI_f, clamp_n, nI_add, subn, remn2, nat_rem, divn, pk_mul, ifle_t, ifle_f, iflt_t, iflt_f, ifeq_t, ifeq_f, ifm_f, ifm_t, if_true, if_false, ga, ar, gb, fa_and, this]
