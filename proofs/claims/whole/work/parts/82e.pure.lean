theorem tot_len {T : NN} {P : Nat → Nat} (hI : IT T) : ∀ {k : Nat}, tot T P k ≤ 8 * k := by
  intro k
  induction k with
  | zero => exact Nat.le_refl _
  | succ k ih =>
    have := ways_len (P := P) (h := k) hI
    rw [tot_s]
    omega
theorem p_rollByNumber {gS tT : GS} {T S : NN} {B num : Nat} (hT : RT tT T) (hI : IT T) (hR : RS gS T S B) (hS : IS T S) (hN : S 0 5 < 100000) (hB : B < 256) (hnum : num < tot (mk T B) (S 1) (T 0 1)) (fW : Nat → Int32) : ∃ g' f' b, MX1_rollByNumber gS fW tT (nI num) = some (g', f') ∧ lotH (mk T B) S num = some b ∧ RS g' T (rol S b ((ways (mk T B) (S 1) b).getD (num - tot (mk T B) (S 1) b) 0)) B := by
  have i2 := hI.1.2.2.1
  have t1 := hT.1.2.1
  have n1 : mk T B 0 1 = T 0 1 := mk_r (by decide)
  obtain ⟨b, hb, hb1, hb2, hb3⟩ := lotH_ok (T := mk T B) (S := S) (num := num) (by rw [n1]; exact hnum)
  rw [n1] at hb1
  have htl := tot_len (P := S 1) (IT_mk (B := B) hI) (k := T 0 1)
  have hbl : num - tot (mk T B) (S 1) b < (ways (mk T B) (S 1) b).length := by rw [tot_s] at hb3; omega
  have hmem := getD_mem hbl
  have hq : (ways (mk T B) (S 1) b).getD (num - tot (mk T B) (S 1) b) 0 < T 0 0 := by
    have := (mem_wayF (T := mk T B) (IT_mk hI) (by rw [mk_r (by decide)]; exact hS.1 b hb1) hmem).2.1
    rwa [mk_r (by decide)] at this
  have hl := ways_len (P := S 1) (h := b) (IT_mk (B := B) hI)
  obtain ⟨g', hp, hp2⟩ := p_passNightOf hT hI hR hS hN (law := 3) (by decide) hb1 hq
  have hp2 : RS g' T (rol S b ((ways (mk T B) (S 1) b).getD (num - tot (mk T B) (S 1) b) 0)) B := by simpa [rolT] using hp2
  unfold MX1_rollByNumber
  simp only [jn1, jn3]
  have key := lq3_rel (f := BX1_rollByNumber_4 tT (fun fW_1 => some (gS, fW_1)) gS (fun x3 x4 fW_5 => chkI x3 8 (bnd1 (MX1_passNightOf gS tT x4 (fW_5 x3.toNatClampNeg) (3 : Int32)) fun (gS_8 : GS) => some (gS_8, fW_5)))) (fun i x y (f : Nat → Int32) => i ≤ b ∧ x = nI (num - tot (mk T B) (S 1) i) ∧ y = nI i) b (fun r => ∃ f', r = some (g', f')) ?_ (nI num) (0 : Int32) fW ⟨Nat.zero_le _, rfl, rfl⟩ (FU_lt (by omega))
  · obtain ⟨f', e⟩ := key
    exact ⟨g', f', b, e, hb, hp2⟩
  rintro i x y f hi ⟨-, rfl, rfl⟩
  obtain ⟨f', hf, hr⟩ := p_ways hT hI hR hS hB (h := i) (by omega) f
  have hli := ways_len (P := S 1) (h := i) (IT_mk (B := B) hI)
  by_cases c : i < b
  · have hm : tot (mk T B) (S 1) (i + 1) ≤ tot (mk T B) (S 1) b := tot_mono (by omega)
    have ht : tot (mk T B) (S 1) (i + 1) = tot (mk T B) (S 1) i + (ways (mk T B) (S 1) i).length := rfl
    refine Or.inl ⟨c, nI (num - tot (mk T B) (S 1) (i + 1)), nI (i + 1), f', ⟨by omega, rfl, rfl⟩, fun rec => ?_⟩
    unfold BX1_rollByNumber_4
    simp (disch := omega) only [nm, jn0, jn1, jn2, jn3, jn4, jn5, bnd1_s, bnd2_s, bnd3_s, bnd4_s, lit_n, neg1, chkI_n, chkZ_n, chkC_n, bI_B, chkB_0, chkB_1, bI_t, bI_f, clamp_n, nI_add, subn, remn2, nat_rem, divn, pk_mul, ifle_t, ifle_f, iflt_t, iflt_f, ifeq_t, ifeq_f, ifm_f, ifm_t, if_true, if_false, t1, hf]
    rw [show num - tot (mk T B) (S 1) i - (ways (mk T B) (S 1) i).length = num - tot (mk T B) (S 1) (i + 1) by omega]
  · have : i = b := by omega
    subst this
    have e := hr _ hbl
    have e2 : (ways (mk T B) (S 1) i)[num - tot (mk T B) (S 1) i] = (ways (mk T B) (S 1) i).getD (num - tot (mk T B) (S 1) i) 0 := by
      rw [List.getD_eq_getElem?_getD, List.getElem?_eq_getElem hbl]
      rfl
    rw [e2] at e
    refine Or.inr ⟨_, ⟨f', rfl⟩, fun rec => ?_⟩
    unfold BX1_rollByNumber_4
    rw [show (3 : Int32) = nI 3 from rfl]
    simp (disch := omega) only [nm, jn0, jn1, jn2, jn3, jn4, jn5, bnd1_s, bnd2_s, bnd3_s, bnd4_s, lit_n, neg1, chkI_n, chkZ_n, chkC_n, bI_B, chkB_0, chkB_1, bI_t, bI_f, clamp_n, nI_add, subn, remn2, nat_rem, divn, pk_mul, ifle_t, ifle_f, iflt_t, iflt_f, ifeq_t, ifeq_f, ifm_f, ifm_t, if_true, if_false, t1, hf, e, hp]
theorem p_passNightByLot {gS tT : GS} {T S : NN} {B : Nat} (hT : RT tT T) (hI : IT T) (hR : RS gS T S B) (hS : IS T S) (hN : S 0 5 < 100000) (hB : B < 256) (fW : Nat → Int32) : ∃ g' f', MX1_passNightByLot gS fW tT = some (g', f') ∧ RS g' T (night (mk T B) 3 S) B := by
  have i2 := hI.1.2.2.1
  have t1 := hT.1.2.1
  have n1 : mk T B 0 1 = T 0 1 := mk_r (by decide)
  have htl := tot_len (P := S 1) (IT_mk (B := B) hI) (k := T 0 1)
  obtain ⟨r1, r2, r4, r5, r6, r7, r8⟩ := id hR
  have hx := hS.2.2.2.1
  unfold MX1_passNightByLot jn2
  refine lq3_rel (fun i x y (f : Nat → Int32) => x = nI (tot (mk T B) (S 1) i) ∧ y = nI i) (T 0 1) (fun r => ∃ g' f', r = some (g', f') ∧ RS g' T (night (mk T B) 3 S) B) ?_ _ _ _ ⟨rfl, rfl⟩ (FU_lt (by omega))
  rintro i x y f hi ⟨rfl, rfl⟩
  by_cases c : i < T 0 1
  · obtain ⟨f', hf, hr⟩ := p_ways hT hI hR hS hB (h := i) c f
    refine Or.inl ⟨c, nI (tot (mk T B) (S 1) (i + 1)), nI (i + 1), f', ⟨rfl, rfl⟩, fun rec => ?_⟩
    unfold BX1_passNightByLot_4
    simp (disch := omega) only [nm, jn0, jn1, jn2, jn3, jn4, jn5, bnd1_s, bnd2_s, bnd3_s, bnd4_s, lit_n, neg1, chkI_n, chkZ_n, chkC_n, bI_B, chkB_0, chkB_1, bI_t, bI_f, clamp_n, nI_add, subn, remn2, nat_rem, divn, pk_mul, ifle_t, ifle_f, iflt_t, iflt_f, ifeq_t, ifeq_f, ifm_f, ifm_t, if_true, if_false, t1, hf]
    rfl
  · have : i = T 0 1 := by omega
    subst this
    unfold night
    rw [if_pos rfl, n1]
    by_cases d : tot (mk T B) (S 1) (T 0 1) = 0
    · refine Or.inr ⟨some (up2 gS 0 5 (nI (S 0 5 + 1)), f), ⟨_, f, rfl, ?_⟩, fun rec => ?_⟩
      rotate_left
      · unfold BX1_passNightByLot_4
        simp (disch := omega) only [nm, jn0, jn1, jn2, jn3, jn4, jn5, bnd1_s, bnd2_s, bnd3_s, bnd4_s, lit_n, neg1, chkI_n, chkZ_n, chkC_n, bI_B, chkB_0, chkB_1, bI_t, bI_f, clamp_n, nI_add, subn, remn2, nat_rem, divn, pk_mul, ifle_t, ifle_f, iflt_t, iflt_f, ifeq_t, ifeq_f, ifm_f, ifm_t, if_true, if_false, t1, d, r5]
      · rw [if_pos d]
        have e1 : (tU S 0 5 (S 0 5 + 1)) 1 = S 1 := by funext a; simp [tU]
        refine ⟨fun a ha => ?_, fun a ha => ?_, ?_, ?_, ?_, ?_, ?_⟩
        · rw [up2_r (by decide), e1]; exact r1 a ha
        · rw [up2_r (by decide), r2 a ha]; simp [tU]
        · rw [up2_n (by decide), e1]; exact r4
        · rw [up2_s]; simp [tU]
        · rw [up2_n (by decide), r6]; simp [tU]
        · rw [up2_n (by decide), r7]; simp [tU]
        · rw [up2_n (by decide)]; exact r8
    · have e1 : (tU S 0 7 (16807 * S 0 7 % 65521)) 1 = S 1 := by funext a; simp [tU]
      have hR2 : RS (up2 gS 0 7 (nI (16807 * S 0 7 % 65521))) T (tU S 0 7 (16807 * S 0 7 % 65521)) B := by
        refine ⟨fun a ha => ?_, fun a ha => ?_, ?_, ?_, ?_, ?_, ?_⟩
        · rw [up2_r (by decide), e1]; exact r1 a ha
        · rw [up2_r (by decide), r2 a ha]; simp [tU]
        · rw [up2_n (by decide), e1]; exact r4
        · rw [up2_n (by decide), r5]; simp [tU]
        · rw [up2_n (by decide), r6]; simp [tU]
        · rw [up2_s]; simp [tU]
        · rw [up2_n (by decide)]; exact r8
      have hm : 16807 * S 0 7 % 65521 < 65521 := Nat.mod_lt _ (by decide)
      have hS2 : IS T (tU S 0 7 (16807 * S 0 7 % 65521)) := IS_x hS hm
      have hN2 : (tU S 0 7 (16807 * S 0 7 % 65521)) 0 5 < 100000 := by simpa [tU] using hN
      have hlt : 16807 * S 0 7 % 65521 % tot (mk T B) (S 1) (T 0 1) < tot (mk T B) (S 1) (T 0 1) := Nat.mod_lt _ (by omega)
      obtain ⟨g', f', b, q1, q2, q3⟩ := p_rollByNumber hT hI hR2 hS2 hN2 hB (num := 16807 * S 0 7 % 65521 % tot (mk T B) (S 1) (T 0 1)) (by rw [e1]; exact hlt) f
      rw [e1] at q3
      have q2' : lotH (mk T B) S (16807 * S 0 7 % 65521 % tot (mk T B) (S 1) (T 0 1)) = some b := by
        unfold lotH at q2 ⊢
        rw [e1] at q2
        exact q2
      refine Or.inr ⟨some (g', f'), ⟨_, f', rfl, ?_⟩, fun rec => ?_⟩
      · rw [if_neg d, q2']
        exact q3
      · unfold BX1_passNightByLot_4
        simp (disch := omega) only [nm, jn0, jn1, jn2, jn3, jn4, jn5, bnd1_s, bnd2_s, bnd3_s, bnd4_s, lit_n, neg1, chkI_n, chkZ_n, chkC_n, bI_B, chkB_0, chkB_1, bI_t, bI_f, clamp_n, nI_add, subn, remn2, nat_rem, divn, pk_mul, ifle_t, ifle_f, iflt_t, iflt_f, ifeq_t, ifeq_f, ifm_f, ifm_t, if_true, if_false, t1, r7]
        simp (disch := omega) only [nm, jn0, jn1, jn2, jn3, jn4, jn5, bnd1_s, bnd2_s, bnd3_s, bnd4_s, lit_n, neg1, chkI_n, chkZ_n, chkC_n, bI_B, chkB_0, chkB_1, bI_t, bI_f, clamp_n, nI_add, subn, remn2, nat_rem, divn, pk_mul, ifle_t, ifle_f, iflt_t, iflt_f, ifeq_t, ifeq_f, ifm_f, ifm_t, if_true, if_false, up2_s, q1]
theorem p_passNight {gS tT : GS} {T S : NN} {B law : Nat} (hT : RT tT T) (hI : IT T) (hR : RS gS T S B) (hS : IS T S) (hN : S 0 5 < 100000) (hB : B < 256) (hlaw : law ≤ 3) (fW : Nat → Int32) : ∃ g' f', MX1_passNight gS fW tT (nI law) = some (g', f') ∧ RS g' T (night (mk T B) law S) B := by
  by_cases c3 : law = 3
  · subst c3
    obtain ⟨g', f', h1, h2⟩ := p_passNightByLot hT hI hR hS hN hB fW
    refine ⟨g', f', ?_, h2⟩
    unfold MX1_passNight
    simp (disch := omega) only [nm, jn0, jn1, jn2, jn3, jn4, jn5, bnd1_s, bnd2_s, bnd3_s, bnd4_s, lit_n, neg1, chkI_n, chkZ_n, chkC_n, bI_B, chkB_0, chkB_1, bI_t, bI_f, clamp_n, nI_add, subn, remn2, nat_rem, divn, pk_mul, ifle_t, ifle_f, iflt_t, iflt_f, ifeq_t, ifeq_f, ifm_f, ifm_t, if_true, if_false, h1]
  · have i2 := hI.1.2.2.1
    obtain ⟨r1, r2, r4, r5, r6, r7, r8⟩ := id hR
    have n1 : mk T B 0 1 = T 0 1 := mk_r (by decide)
    have hu := hS.2.2.1
    have hch : ∃ f', MX1_chooseRoller gS fW tT (nI law) = some (oI (rlr (mk T B) law S), f') := by
      unfold MX1_chooseRoller rlr
      by_cases c2 : law = 2
      · obtain ⟨f', hf⟩ := p_longestRested hT hI hR hS hN hB fW
        refine ⟨f', ?_⟩
        rw [n1]
        simp (disch := omega) only [nm, jn0, jn1, jn2, jn3, jn4, jn5, bnd1_s, bnd2_s, bnd3_s, bnd4_s, lit_n, neg1, chkI_n, chkZ_n, chkC_n, bI_B, chkB_0, chkB_1, bI_t, bI_f, clamp_n, nI_add, subn, remn2, nat_rem, divn, pk_mul, ifle_t, ifle_f, iflt_t, iflt_f, ifeq_t, ifeq_f, ifm_f, ifm_t, if_true, if_false, hf, if_pos c2]
      · by_cases c1 : law = 1
        · obtain ⟨f', hf⟩ := p_firstThatCan hT hI hR hS hB (u := S 0 6) hu fW
          refine ⟨f', ?_⟩
          simp (disch := omega) only [nm, jn0, jn1, jn2, jn3, jn4, jn5, bnd1_s, bnd2_s, bnd3_s, bnd4_s, lit_n, neg1, chkI_n, chkZ_n, chkC_n, bI_B, chkB_0, chkB_1, bI_t, bI_f, clamp_n, nI_add, subn, remn2, nat_rem, divn, pk_mul, ifle_t, ifle_f, iflt_t, iflt_f, ifeq_t, ifeq_f, ifm_f, ifm_t, if_true, if_false, hf, if_neg c2, if_pos c1, r6]
        · obtain ⟨f', hf⟩ := p_firstThatCan hT hI hR hS hB (u := 0) (Or.inl rfl) fW
          refine ⟨f', ?_⟩
          simp (disch := omega) only [nm, jn0, jn1, jn2, jn3, jn4, jn5, bnd1_s, bnd2_s, bnd3_s, bnd4_s, lit_n, neg1, chkI_n, chkZ_n, chkC_n, bI_B, chkB_0, chkB_1, bI_t, bI_f, clamp_n, nI_add, subn, remn2, nat_rem, divn, pk_mul, ifle_t, ifle_f, iflt_t, iflt_f, ifeq_t, ifeq_f, ifm_f, ifm_t, if_true, if_false, hf, if_neg c2, if_neg c1]
    obtain ⟨f1, hf1⟩ := hch
    unfold MX1_passNight night
    rw [if_neg c3]
    cases e : rlr (mk T B) law S with
    | none =>
      rw [e] at hf1
      simp (disch := omega) only [nm, jn0, jn1, jn2, jn3, jn4, jn5, bnd1_s, bnd2_s, bnd3_s, bnd4_s, lit_n, neg1, chkI_n, chkZ_n, chkC_n, bI_B, chkB_0, chkB_1, bI_t, bI_f, clamp_n, nI_add, subn, remn2, nat_rem, divn, pk_mul, ifle_t, ifle_f, iflt_t, iflt_f, ifeq_t, ifeq_f, ifm_f, ifm_t, if_true, if_false, hf1, oI, r5]
      refine ⟨_, _, rfl, ?_⟩
      have e1 : (tU S 0 5 (S 0 5 + 1)) 1 = S 1 := by funext a; simp [tU]
      refine ⟨fun a ha => ?_, fun a ha => ?_, ?_, ?_, ?_, ?_, ?_⟩
      · rw [up2_r (by decide), e1]; exact r1 a ha
      · rw [up2_r (by decide), r2 a ha]; simp [tU]
      · rw [up2_n (by decide), e1]; exact r4
      · rw [up2_s]; simp [tU]
      · rw [up2_n (by decide), r6]; simp [tU]
      · rw [up2_n (by decide), r7]; simp [tU]
      · rw [up2_n (by decide)]; exact r8
    | some b =>
      rw [e] at hf1
      obtain ⟨hb, hw⟩ := rlr_lt e
      rw [n1] at hb
      have h0 := hasW_0 hw
      obtain ⟨f2, hf2, hr⟩ := p_ways hT hI hR hS hB hb f1
      have hq : (ways (mk T B) (S 1) b).getD 0 0 < T 0 0 := by
        have := (mem_wayF (T := mk T B) (IT_mk hI) (by rw [mk_r (by decide)]; exact hS.1 b hb) (getD_mem h0)).2.1
        rwa [mk_r (by decide)] at this
      have e2 : f2 0 = nI ((ways (mk T B) (S 1) b).getD 0 0) := by
        rw [hr 0 h0, List.getD_eq_getElem?_getD, List.getElem?_eq_getElem h0]
        rfl
      obtain ⟨g', hp, hp2⟩ := p_passNightOf hT hI hR hS hN hlaw hb hq
      have hr2 : rolT (mk T B) S b ((ways (mk T B) (S 1) b).getD 0 0) law = rolT T S b ((ways (mk T B) (S 1) b).getD 0 0) law := by
        unfold rolT
        rw [n1]
      refine ⟨g', f2, ?_, by show RS g' T (rolT (mk T B) S b _ law) B; rw [hr2]; exact hp2⟩
      simp (disch := omega) only [nm, jn0, jn1, jn2, jn3, jn4, jn5, bnd1_s, bnd2_s, bnd3_s, bnd4_s, lit_n, neg1, chkI_n, chkZ_n, chkC_n, bI_B, chkB_0, chkB_1, bI_t, bI_f, clamp_n, nI_add, subn, remn2, nat_rem, divn, pk_mul, ifle_t, ifle_f, iflt_t, iflt_f, ifeq_t, ifeq_f, ifm_f, ifm_t, if_true, if_false, hf1, oI, hf2, e2, hp]
/-! who is beside whom -/
def bes (T : NN) (P : Nat → Nat) (a b : Nat) : Bool := decide (∃ q, q < T 0 0 ∧ sOn T P a q = true ∧ (sOn T P b (nx (T 0 0) q) = true ∨ sOn T P b (pv (T 0 0) q) = true))
theorem pv_nx {p q : Nat} (h : q < p) : pv p (nx p q) = q := by
  unfold nx pv
  split <;> split <;> omega
theorem arnd_t {p b i : Nat} (hp : 3 ≤ p) (hb : b < 2 ^ p) (hi : i < p) : (arnd p b).testBit i = (b.testBit (pv p i) || b.testBit (nx p i)) := by
  have big : ∀ j, p ≤ j → b.testBit j = false := fun j hj => Nat.testBit_lt_two_pow (Nat.lt_of_lt_of_le hb (Nat.pow_le_pow_right (by decide) hj))
  unfold arnd
  rw [Nat.testBit_and, Nat.testBit_or, Nat.testBit_or, Nat.testBit_or, Nat.testBit_two_pow_sub_one, Nat.testBit_mul_two_pow, Nat.testBit_mul_two_pow, Nat.testBit_div_two_pow, Nat.testBit_div_two_pow]
  simp only [hi, decide_true, Bool.and_true]
  unfold pv nx
  by_cases c0 : i = 0
  · subst c0
    have d1 : decide (1 ≤ 0) = false := by decide
    have d2 : decide (p - 1 ≤ 0) = false := by simp; omega
    rw [d1, d2, if_pos rfl, if_pos (by omega)]
    simp
  · rw [if_neg c0]
    by_cases c1 : i + 1 < p
    · rw [if_pos c1, big (i + (p - 1)) (by omega)]
      have d1 : decide (1 ≤ i) = true := by simp; omega
      have d2 : decide (p ≤ i + 1) = false := by simp; omega
      simp [d1, d2]
    · rw [if_neg c1, big (i + 1) (by omega), big (i + (p - 1)) (by omega)]
      have d1 : decide (1 ≤ i) = true := by simp; omega
      have d2 : decide (p ≤ i + 1) = true := by simp; omega
      have d3 : i - (p - 1) = 0 := by omega
      simp [d1, d2, d3]
theorem ne0_bit {n : Nat} : n ≠ 0 ↔ ∃ i, n.testBit i = true := by
  constructor
  · intro h
    exact Nat.exists_testBit_of_ne_zero h
  · rintro ⟨i, h⟩ rfl
    simp at h
theorem p_areBeside {gS tT : GS} {T : NN} (hT : RT tT T) (hI : IT T) {P : Nat → Nat} {a b : Nat} (hP : ∀ h, h < T 0 1 → gS 1 h = nI (P h)) (hl : ∀ h, h < T 0 1 → P h < T 0 0) (ha : a < T 0 1) (hb : b < T 0 1) : MX1_areBeside gS tT (nI a) (nI b) = some (bI (bes T P a b)) := by
  have i2 := hI.1.2.2.1
  have i0 := hI.1.1
  have ga := p_groundOf (gS := gS) hT hI (h := a) (by omega) (hP a ha) (hl a ha)
  have gb := p_groundOf (gS := gS) hT hI (h := b) (by omega) (hP b hb) (hl b hb)
  have la : gr (T 0 0) (T 2 a) (P a) < 2 ^ T 0 0 := gr_lt (hl a ha)
  have lb : gr (T 0 0) (T 2 b) (P b) < 2 ^ T 0 0 := gr_lt (hl b hb)
  have ar := p_around hT hI la
  have e12 := two_12 hI.1.2.1
  have lab : arnd (T 0 0) (gr (T 0 0) (T 2 a) (P a)) &&& gr (T 0 0) (T 2 b) (P b) < 2 ^ T 0 0 := Nat.and_lt_two_pow _ lb
  have hbit : ∀ j, (gr (T 0 0) (T 2 b) (P b)).testBit j = true → j < T 0 0 := by
    intro j hj
    refine Decidable.byContradiction fun z => ?_
    rw [Nat.testBit_lt_two_pow (Nat.lt_of_lt_of_le lb (Nat.pow_le_pow_right (by decide) (by omega)))] at hj
    cases hj
  have hbitA : ∀ j, (gr (T 0 0) (T 2 a) (P a)).testBit j = true → j < T 0 0 := by
    intro j hj
    refine Decidable.byContradiction fun z => ?_
    rw [Nat.testBit_lt_two_pow (Nat.lt_of_lt_of_le la (Nat.pow_le_pow_right (by decide) (by omega)))] at hj
    cases hj
  have hiff : (arnd (T 0 0) (gr (T 0 0) (T 2 a) (P a)) &&& gr (T 0 0) (T 2 b) (P b) ≠ 0) ↔ bes T P a b = true := by
    unfold bes
    rw [decide_eq_true_iff, ne0_bit]
    constructor
    · rintro ⟨i, h⟩
      rw [Nat.testBit_and, Bool.and_eq_true] at h
      have hi := hbit i h.2
      rw [arnd_t i0 la hi, Bool.or_eq_true, sOn_gr, sOn_gr] at h
      rw [sOn_gr] at h
      rcases h.1 with h1 | h1
      · exact ⟨_, pv_lt hi, h1, Or.inl (by rw [nx_pv hi]; exact h.2)⟩
      · exact ⟨_, nx_lt (by omega), h1, Or.inr (by rw [pv_nx hi]; exact h.2)⟩
    · rintro ⟨q, hq, h1, h2⟩
      rcases h2 with h2 | h2
      · refine ⟨nx (T 0 0) q, ?_⟩
        rw [Nat.testBit_and, Bool.and_eq_true, arnd_t i0 la (nx_lt (by omega)), Bool.or_eq_true, sOn_gr, sOn_gr, sOn_gr, pv_nx hq]
        exact ⟨Or.inl h1, h2⟩
      · refine ⟨pv (T 0 0) q, ?_⟩
        rw [Nat.testBit_and, Bool.and_eq_true, arnd_t i0 la (pv_lt hq), Bool.or_eq_true, sOn_gr, sOn_gr, sOn_gr, nx_pv hq]
        exact ⟨Or.inr h1, h2⟩
  unfold MX1_areBeside
  cases e : bes T P a b with
  | true =>
    have := hiff.mpr e
    simp (disch := omega) only [nm, jn0, jn1, jn2, jn3, jn4, jn5, bnd1_s, bnd2_s, bnd3_s, bnd4_s, lit_n, neg1, chkI_n, chkZ_n, chkC_n, bI_B, chkB_0, chkB_1, bI_t, bI_f, clamp_n, nI_add, subn, remn2, nat_rem, divn, pk_mul, ifle_t, ifle_f, iflt_t, iflt_f, ifeq_t, ifeq_f, ifm_f, ifm_t, if_true, if_false, ga, ar, gb, fa_and]
  | false =>
    have : arnd (T 0 0) (gr (T 0 0) (T 2 a) (P a)) &&& gr (T 0 0) (T 2 b) (P b) = 0 := Decidable.byContradiction fun z => by
      have := hiff.mp z
      rw [e] at this; cases this
    simp (disch := omega) only [nm, jn0, jn1, jn2, jn3, jn4, jn5, bnd1_s, bnd2_s, bnd3_s, bnd4_s, lit_n, neg1, chkI_n, chkZ_n, chkC_n, bI_B, chkB_0, chkB_1, bI_t, bI_f, clamp_n, nI_add, subn, remn2, nat_rem, divn, pk_mul, ifle_t, ifle_f, iflt_t, iflt_f, ifeq_t, ifeq_f, ifm_f, ifm_t, if_true, if_false, ga, ar, gb, fa_and, this]
