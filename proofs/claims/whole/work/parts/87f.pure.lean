/-! paths, feuds, lot -/
theorem r_unlike {L e w h : Nat} {Bt : Nat → Nat} {m0 : GS} {m : Int32} (tk : Int64) (hM : MT m0 L Bt e) (heL : e ≤ L) (hw : w + 2 < 36) (h99 : m ≤ nI 99) (hm : ∀ v, v < 100000 → (nI v ≤ m ↔ v < h)) (hh : h ≤ 12) :
    (nb Bt (tB L Bt e) (tE L Bt (tB L Bt e)) 0 h 2 = none ∧ ∃ m' tk', MX5_areUnlike m0 tk (nI w) m = some (nI 0, m', tk') ∧ m' 0 18 = nI (tB L Bt e) ∧ fPs m0 m' w) ∨
    (∃ v, nb Bt (tB L Bt e) (tE L Bt (tB L Bt e)) 0 h 2 = some v ∧
      ((nb Bt (tB L Bt (tE L Bt (tB L Bt e))) (tE L Bt (tB L Bt (tE L Bt (tB L Bt e)))) 0 h 2 = none ∧ ∃ m' tk', MX5_areUnlike m0 tk (nI w) m = some (nI 0, m', tk') ∧ m' 0 18 = nI (tB L Bt (tE L Bt (tB L Bt e))) ∧ fPs m0 m' w) ∨
       (∃ u, nb Bt (tB L Bt (tE L Bt (tB L Bt e))) (tE L Bt (tB L Bt (tE L Bt (tB L Bt e)))) 0 h 2 = some u ∧ ((v = u ∧ ∃ m' tk', MX5_areUnlike m0 tk (nI w) m = some (nI 0, m', tk') ∧ m' 0 18 = nI (tB L Bt (tE L Bt (tB L Bt e))) ∧ fPs m0 m' w) ∨ (v ≠ u ∧ ∃ m' tk', MX5_areUnlike m0 tk (nI w) m = some (nI 1, m', tk') ∧ MT m' L Bt (tE L Bt (tB L Bt (tE L Bt (tB L Bt e)))) ∧ m' 7 (w + 1) = nI v ∧ m' 7 (w + 2) = nI u ∧ fPs m0 m' w ∧ (∀ T, CN m0 T → CN m' T) ∧ m' 7 w = m0 7 w))))) := by
  obtain ⟨m', b1, b2, b3, b4, b5, b6⟩ := r_isNumber hM heL tk (w := w + 1) (lo := 0) (h := h) (md := 2) (m := m) (by omega) (by decide) (Or.inl ⟨h99, rfl⟩) hm
  have hb1 : e ≤ tB L Bt e ∧ tB L Bt e ≤ L := rn_le (g := fun i => decide (Bt i = 32)) heL
  have he1 : tB L Bt e ≤ tE L Bt (tB L Bt e) ∧ tE L Bt (tB L Bt e) ≤ L := rn_le (g := gB Bt (tB L Bt e)) hb1.2
  obtain ⟨m2, g1, g2, g3, g4, g5, g6⟩ := r_isNumber b3 he1.2 (tkn L Bt (tB L Bt e)) (w := w + 2) (lo := 0) (h := h) (md := 2) (m := m) (by omega) (by decide) (Or.inl ⟨h99, rfl⟩) hm
  have F := (b2.p (w := w) (by omega) (by omega)).trans (g2.p (w := w) (by omega) (by omega))
  have hf := r_fails g6
  unfold MX5_areUnlike
  cases q : nb Bt (tB L Bt e) (tE L Bt (tB L Bt e)) 0 h 2 with
  | none =>
    rw [q] at b1
    left
    refine ⟨rfl, ?_⟩
    simp (disch := omega) only [nm, jn0, jn1, jn2, jn3, jn4, jn5, bnd1_s, bnd2_s, bnd3_s, bnd4_s, lit_n, neg1, chkI_n, chkZ_n, chkC_n, bI_B, chkB_0, chkB_1, bI_t, bI_f, clamp_n, nI_add, subn, remn2, nat_rem, divn, pk_mul, ifle_t, ifle_f, iflt_t, iflt_f, ifeq_t, ifeq_f, ifm_f, ifm_t, if_true, if_false, b1, Option.isSome_none]
    exact ⟨_, _, rfl, b4 q, b2.p (by omega) (by omega)⟩
  | some v =>
    rw [q] at b1
    have e7 := b5 v q
    obtain ⟨v1, v2⟩ := nb_some q
    right
    refine ⟨v, rfl, ?_⟩
    cases q2 : nb Bt (tB L Bt (tE L Bt (tB L Bt e))) (tE L Bt (tB L Bt (tE L Bt (tB L Bt e)))) 0 h 2 with
    | none =>
      rw [q2] at g1
      left
      refine ⟨rfl, ?_⟩
      simp (disch := omega) only [nm, jn0, jn1, jn2, jn3, jn4, jn5, bnd1_s, bnd2_s, bnd3_s, bnd4_s, lit_n, neg1, chkI_n, chkZ_n, chkC_n, bI_B, chkB_0, chkB_1, bI_t, bI_f, clamp_n, nI_add, subn, remn2, nat_rem, divn, pk_mul, ifle_t, ifle_f, iflt_t, iflt_f, ifeq_t, ifeq_f, ifm_f, ifm_t, if_true, if_false, b1, g1, Option.isSome_none, Option.isSome_some]
      exact ⟨_, _, rfl, g4 q2, F⟩
    | some u =>
      rw [q2] at g1
      have e8 := g5 u q2
      obtain ⟨u1, u2⟩ := nb_some q2
      have e7' : m2 7 (w + 1) = nI v := by rw [g2 7 (w + 1) (by simp) (by omega)]; exact e7
      right
      refine ⟨u, rfl, ?_⟩
      by_cases c : v = u
      · left
        refine ⟨c, ?_⟩
        simp (disch := omega) only [nm, jn0, jn1, jn2, jn3, jn4, jn5, bnd1_s, bnd2_s, bnd3_s, bnd4_s, lit_n, neg1, chkI_n, chkZ_n, chkC_n, bI_B, chkB_0, chkB_1, bI_t, bI_f, clamp_n, nI_add, subn, remn2, nat_rem, divn, pk_mul, ifle_t, ifle_f, iflt_t, iflt_f, ifeq_t, ifeq_f, ifm_f, ifm_t, if_true, if_false, b1, g1, Option.isSome_some, e7', e8, hf]
        exact ⟨_, _, rfl, up2_s, F.trans (fPs_up (by decide) (by decide) (by decide) (by decide))⟩
      · right
        refine ⟨c, ?_⟩
        simp (disch := omega) only [nm, jn0, jn1, jn2, jn3, jn4, jn5, bnd1_s, bnd2_s, bnd3_s, bnd4_s, lit_n, neg1, chkI_n, chkZ_n, chkC_n, bI_B, chkB_0, chkB_1, bI_t, bI_f, clamp_n, nI_add, subn, remn2, nat_rem, divn, pk_mul, ifle_t, ifle_f, iflt_t, iflt_f, ifeq_t, ifeq_f, ifm_f, ifm_t, if_true, if_false, b1, g1, Option.isSome_some, e7', e8]
        exact ⟨_, _, rfl, g3, e7', e8, F, fun T h => (h.N b2).N g2, by rw [g2 7 w (by simp) (by omega), b2 7 w (by simp) (by omega)]⟩
theorem CN_up {m : GS} {T : NN} {j : Nat} {v : Int32} (h : CN m T) (hj : j < 20 ∨ 24 < j) : CN (up2 m 0 j v) T := by
  obtain ⟨a, b, c, d, e⟩ := h
  exact ⟨by rw [up2_n (by omega)]; exact a, by rw [up2_n (by omega)]; exact b, by rw [up2_n (by omega)]; exact c, by rw [up2_n (by omega)]; exact d, by rw [up2_n (by omega)]; exact e⟩
theorem MT_up {m : GS} {L e : Nat} {Bt : Nat → Nat} {j : Nat} {v : Int32} (h : MT m L Bt e) (hj : j ≠ 11 ∧ j ≠ 13) : MT (up2 m 0 j v) L Bt e := by
  obtain ⟨x1, x2, x3, x4⟩ := h
  exact ⟨by rw [up2_n hj.1.symm]; exact x1, by rw [up2_n hj.2.symm]; exact x2, x3, fun i hi => by rw [up2_r (by decide)]; exact x4 i hi⟩
theorem adP_oc {T : NN} {a b : Nat} : ∀ {n : Nat}, ocN (adP T a b) (adP T a b 3) n = ocN T (T 3) n := by
  intro n
  induction n with
  | zero => rfl
  | succ n ih => unfold ocN; rw [ih]; simp [adP, tU]
theorem adF_oc {T : NN} {a b : Nat} : ∀ {n : Nat}, ocN (adF T a b) (adF T a b 3) n = ocN T (T 3) n := by
  intro n
  induction n with
  | zero => rfl
  | succ n ih => unfold ocN; rw [ih]; simp [adF, tU]
theorem l_path {L b e ln w : Nat} {Bt : Nat → Nat} {xT tT m : GS} {T : NN} (tk : Int64) (H : AtW L Bt b e ln w 6 xT tT m T) : LFS L Bt ln w T 6 (MX2_readPath xT tT) (MX5_isPath m tk (nI w)) m := by
  obtain ⟨hX, h3, hbL, heL, hT, hI, hM, h14, hC, h7, hw⟩ := H
  have i0 := hI.1.1
  have i1 := hI.1.2.1
  have i6 := hI.1.2.2.2.1
  have t0 := hT.1.1
  have t2 := hT.1.2.2.1
  have c23 := hC.2.2.2.1
  unfold MX2_readPath MX5_isPath
  by_cases h6 : T 0 2 < 6
  · obtain ⟨m0, hm0⟩ : ∃ m0, m0 = up2 m 0 23 (nI (T 0 2 + 1)) := ⟨_, rfl⟩
    have f0 : fPs m m0 w := by rw [hm0]; exact fPs_up (by decide) (by decide) (by decide) (by decide)
    have M0 : MT m0 L Bt e := by rw [hm0]; exact MT_up hM (by decide)
    have m020 : m0 0 20 = nI (T 0 0) := by rw [hm0, up2_n (by decide)]; exact hC.1
    have hmn := hm_n (h := T 0 0) (by omega) (by omega)
    have h99 : nI (T 0 0 - 1) ≤ nI 99 := nI_le (by omega) (by decide)
    obtain ⟨xT', a1, a2, a3, a4, a5⟩ := p_readNumber hX heL (lo := 0) (h := T 0 0) (md := 2) (m := nI (T 0 0 - 1)) (by decide) (by decide) hmn
    obtain ⟨xT2, d1, d2, d3, d4, d5⟩ := p_readNumber a2 a5 (lo := 0) (h := T 0 0) (md := 2) (m := nI (T 0 0 - 1)) (by decide) (by decide) hmn
    rcases r_unlike tk M0 heL hw h99 hmn (by omega) with ⟨q, m', tk', r1, r2, r3⟩ | ⟨v, q, ⟨q2, m', tk', r1, r2, r3⟩ | ⟨u, q2, ⟨c, m', tk', r1, r2, r3⟩ | ⟨c, m', tk', r1, r2, r3, r4, r5, r6, r7⟩⟩⟩
    · rw [q] at a1
      left
      simp (disch := omega) only [nm, jn0, jn1, jn2, jn3, jn4, jn5, bnd1_s, bnd2_s, bnd3_s, bnd4_s, lit_n, neg1, chkI_n, chkZ_n, chkC_n, bI_B, chkB_0, chkB_1, bI_t, bI_f, clamp_n, nI_add, subn, remn2, nat_rem, divn, pk_mul, ifle_t, ifle_f, iflt_t, iflt_f, ifeq_t, ifeq_f, ifm_f, ifm_t, if_true, if_false, t0, t2, c23, ← hm0, m020, a1, oI, r1]
      exact ⟨_, _, _, _, _, _, rfl, rfl, a2, a3, by omega, r2, f0.trans r3⟩
    · rw [q] at a1
      rw [q2] at d1
      obtain ⟨v1, v2⟩ := nb_some q
      left
      simp (disch := omega) only [nm, jn0, jn1, jn2, jn3, jn4, jn5, bnd1_s, bnd2_s, bnd3_s, bnd4_s, lit_n, neg1, chkI_n, chkZ_n, chkC_n, bI_B, chkB_0, chkB_1, bI_t, bI_f, clamp_n, nI_add, subn, remn2, nat_rem, divn, pk_mul, ifle_t, ifle_f, iflt_t, iflt_f, ifeq_t, ifeq_f, ifm_f, ifm_t, if_true, if_false, t0, t2, c23, ← hm0, m020, a1, d1, oI, r1]
      exact ⟨_, _, _, _, _, _, rfl, rfl, d2, d3, by omega, r2, f0.trans r3⟩
    · rw [q] at a1
      rw [q2] at d1
      obtain ⟨v1, v2⟩ := nb_some q
      obtain ⟨u1, u2⟩ := nb_some q2
      have s := (p_addPath hT hI (a := v) (b := u) (by omega) (by omega) h6).1 c
      left
      simp (disch := omega) only [nm, jn0, jn1, jn2, jn3, jn4, jn5, bnd1_s, bnd2_s, bnd3_s, bnd4_s, lit_n, neg1, chkI_n, chkZ_n, chkC_n, bI_B, chkB_0, chkB_1, bI_t, bI_f, clamp_n, nI_add, subn, remn2, nat_rem, divn, pk_mul, ifle_t, ifle_f, iflt_t, iflt_f, ifeq_t, ifeq_f, ifm_f, ifm_t, if_true, if_false, t0, t2, c23, ← hm0, m020, a1, d1, oI, r1, s]
      exact ⟨_, _, _, _, _, _, rfl, rfl, d2, d3, by omega, r2, f0.trans r3⟩
    · rw [q] at a1
      rw [q2] at d1
      obtain ⟨v1, v2⟩ := nb_some q
      obtain ⟨u1, u2⟩ := nb_some q2
      obtain ⟨t', s1, s2⟩ := (p_addPath hT hI (a := v) (b := u) (by omega) (by omega) h6).2 c
      right
      simp (disch := omega) only [nm, jn0, jn1, jn2, jn3, jn4, jn5, bnd1_s, bnd2_s, bnd3_s, bnd4_s, lit_n, neg1, chkI_n, chkZ_n, chkC_n, bI_B, chkB_0, chkB_1, bI_t, bI_f, clamp_n, nI_add, subn, remn2, nat_rem, divn, pk_mul, ifle_t, ifle_f, iflt_t, iflt_f, ifeq_t, ifeq_f, ifm_f, ifm_t, if_true, if_false, t0, t2, c23, ← hm0, m020, a1, d1, oI, r1, s1]
      have hC' : CN m' (adP T v u) := by
        obtain ⟨y1, y2, y3, y4, y5⟩ := hC
        have base : m' 0 20 = nI (T 0 0) ∧ m' 0 21 = nI (T 0 1) ∧ m' 0 22 = nI (ocN T (T 3) (T 0 1)) ∧ m' 0 23 = nI (T 0 2 + 1) ∧ m' 0 24 = nI (T 0 3) := by
          have := r6 (tU T 0 2 (T 0 2 + 1)) (by
            have eo : ∀ n, ocN (tU T 0 2 (T 0 2 + 1)) ((tU T 0 2 (T 0 2 + 1)) 3) n = ocN T (T 3) n := by
              intro n
              induction n with
              | zero => rfl
              | succ n ih => unfold ocN; rw [ih]; simp [tU]
            refine ⟨?_, ?_, ?_, ?_, ?_⟩
            · rw [m020]; simp [tU]
            · rw [hm0, up2_n (by decide), y2]; simp [tU]
            · rw [hm0, up2_n (by decide), y3, eo]; simp [tU]
            · rw [hm0, up2_s]; simp [tU]
            · rw [hm0, up2_n (by decide), y5]; simp [tU])
          have eo : ∀ n, ocN (tU T 0 2 (T 0 2 + 1)) ((tU T 0 2 (T 0 2 + 1)) 3) n = ocN T (T 3) n := by
            intro n
            induction n with
            | zero => rfl
            | succ n ih => unfold ocN; rw [ih]; simp [tU]
          obtain ⟨z1, z2, z3, z4, z5⟩ := this
          rw [eo] at z3
          refine ⟨?_, ?_, ?_, ?_, ?_⟩
          · rw [z1]; simp [tU]
          · rw [z2]; simp [tU]
          · rw [z3]; simp [tU]
          · rw [z4]; simp [tU]
          · rw [z5]; simp [tU]
        obtain ⟨z1, z2, z3, z4, z5⟩ := base
        refine ⟨?_, ?_, ?_, ?_, ?_⟩
        · rw [z1]; simp [adP, tU]
        · rw [z2]; simp [adP, tU]
        · rw [z3, adP_oc]; simp [adP, tU]
        · rw [z4]; simp [adP, tU]
        · rw [z5]; simp [adP, tU]
      refine ⟨_, t', m', tk', _, v, u, rfl, rfl, d2, d5, r2, s2, IT_adP hI h6 v2 u2, hC', ?_, ⟨?_, fun _ => r3, fun _ => r4⟩, f0.trans r5⟩
      · unfold okA; omega
      · rw [r7, hm0, up2_r (by decide)]; exact h7
  · have h8' : T 0 2 = 6 := by omega
    have hf := r_fails h14
    left
    simp (disch := omega) only [nm, jn0, jn1, jn2, jn3, jn4, jn5, bnd1_s, bnd2_s, bnd3_s, bnd4_s, lit_n, neg1, chkI_n, chkZ_n, chkC_n, bI_B, chkB_0, chkB_1, bI_t, bI_f, clamp_n, nI_add, subn, remn2, nat_rem, divn, pk_mul, ifle_t, ifle_f, iflt_t, iflt_f, ifeq_t, ifeq_f, ifm_f, ifm_t, if_true, if_false, t2, c23, h8', hf]
    exact ⟨_, _, _, _, _, _, rfl, rfl, hX, h3, hbL, up2_s, fPs_up (by decide) (by decide) (by decide) (by decide)⟩
theorem l_feud {L b e ln w : Nat} {Bt : Nat → Nat} {xT tT m : GS} {T : NN} (tk : Int64) (H : AtW L Bt b e ln w 7 xT tT m T) : LFS L Bt ln w T 7 (MX2_readFeud xT tT) (MX5_isFeud m tk (nI w)) m := by
  obtain ⟨hX, h3, hbL, heL, hT, hI, hM, h14, hC, h7, hw⟩ := H
  have i2 := hI.1.2.2.1
  have i6 := hI.1.2.2.2.2.1
  have t1 := hT.1.2.1
  have t3 := hT.1.2.2.2.1
  have c24 := hC.2.2.2.2
  unfold MX2_readFeud MX5_isFeud
  by_cases h6 : T 0 3 < 6
  · obtain ⟨m0, hm0⟩ : ∃ m0, m0 = up2 m 0 24 (nI (T 0 3 + 1)) := ⟨_, rfl⟩
    have f0 : fPs m m0 w := by rw [hm0]; exact fPs_up (by decide) (by decide) (by decide) (by decide)
    have M0 : MT m0 L Bt e := by rw [hm0]; exact MT_up hM (by decide)
    have m021 : m0 0 21 = nI (T 0 1) := by rw [hm0, up2_n (by decide)]; exact hC.2.1
    have hmn := hm_e (h := T 0 1) (by omega)
    have h99 := le99 (h := T 0 1) (by omega)
    obtain ⟨M, hMM⟩ : ∃ M, M = nI (T 0 1) - nI 1 := ⟨_, rfl⟩
    rw [← hMM] at hmn h99
    have tM : tT 0 1 - nI 1 = M := by rw [t1, hMM]
    have mMM : m0 0 21 - nI 1 = M := by rw [m021, hMM]
    obtain ⟨xT', a1, a2, a3, a4, a5⟩ := p_readNumber hX heL (lo := 0) (h := T 0 1) (md := 2) (m := M) (by decide) (by decide) hmn
    obtain ⟨xT2, d1, d2, d3, d4, d5⟩ := p_readNumber a2 a5 (lo := 0) (h := T 0 1) (md := 2) (m := M) (by decide) (by decide) hmn
    rcases r_unlike tk M0 heL hw h99 hmn (by omega) with ⟨q, m', tk', r1, r2, r3⟩ | ⟨v, q, ⟨q2, m', tk', r1, r2, r3⟩ | ⟨u, q2, ⟨c, m', tk', r1, r2, r3⟩ | ⟨c, m', tk', r1, r2, r3, r4, r5, r6, r7⟩⟩⟩
    · rw [q] at a1
      left
      simp (disch := omega) only [nm, jn0, jn1, jn2, jn3, jn4, jn5, bnd1_s, bnd2_s, bnd3_s, bnd4_s, lit_n, neg1, chkI_n, chkZ_n, chkC_n, bI_B, chkB_0, chkB_1, bI_t, bI_f, clamp_n, nI_add, subn, remn2, nat_rem, divn, pk_mul, ifle_t, ifle_f, iflt_t, iflt_f, ifeq_t, ifeq_f, ifm_f, ifm_t, if_true, if_false, t3, tM, c24, ← hm0, mMM, a1, oI, r1]
      exact ⟨_, _, _, _, _, _, rfl, rfl, a2, a3, by omega, r2, f0.trans r3⟩
    · rw [q] at a1
      rw [q2] at d1
      obtain ⟨v1, v2⟩ := nb_some q
      left
      simp (disch := omega) only [nm, jn0, jn1, jn2, jn3, jn4, jn5, bnd1_s, bnd2_s, bnd3_s, bnd4_s, lit_n, neg1, chkI_n, chkZ_n, chkC_n, bI_B, chkB_0, chkB_1, bI_t, bI_f, clamp_n, nI_add, subn, remn2, nat_rem, divn, pk_mul, ifle_t, ifle_f, iflt_t, iflt_f, ifeq_t, ifeq_f, ifm_f, ifm_t, if_true, if_false, t3, tM, c24, ← hm0, mMM, a1, d1, oI, r1]
      exact ⟨_, _, _, _, _, _, rfl, rfl, d2, d3, by omega, r2, f0.trans r3⟩
    · rw [q] at a1
      rw [q2] at d1
      obtain ⟨v1, v2⟩ := nb_some q
      obtain ⟨u1, u2⟩ := nb_some q2
      have s := (p_addFeud hT hI (a := v) (b := u) (by omega) (by omega) h6).1 c
      left
      simp (disch := omega) only [nm, jn0, jn1, jn2, jn3, jn4, jn5, bnd1_s, bnd2_s, bnd3_s, bnd4_s, lit_n, neg1, chkI_n, chkZ_n, chkC_n, bI_B, chkB_0, chkB_1, bI_t, bI_f, clamp_n, nI_add, subn, remn2, nat_rem, divn, pk_mul, ifle_t, ifle_f, iflt_t, iflt_f, ifeq_t, ifeq_f, ifm_f, ifm_t, if_true, if_false, t3, tM, c24, ← hm0, mMM, a1, d1, oI, r1, s]
      exact ⟨_, _, _, _, _, _, rfl, rfl, d2, d3, by omega, r2, f0.trans r3⟩
    · rw [q] at a1
      rw [q2] at d1
      obtain ⟨v1, v2⟩ := nb_some q
      obtain ⟨u1, u2⟩ := nb_some q2
      obtain ⟨t', s1, s2⟩ := (p_addFeud hT hI (a := v) (b := u) (by omega) (by omega) h6).2 c
      right
      simp (disch := omega) only [nm, jn0, jn1, jn2, jn3, jn4, jn5, bnd1_s, bnd2_s, bnd3_s, bnd4_s, lit_n, neg1, chkI_n, chkZ_n, chkC_n, bI_B, chkB_0, chkB_1, bI_t, bI_f, clamp_n, nI_add, subn, remn2, nat_rem, divn, pk_mul, ifle_t, ifle_f, iflt_t, iflt_f, ifeq_t, ifeq_f, ifm_f, ifm_t, if_true, if_false, t3, tM, c24, ← hm0, mMM, a1, d1, oI, r1, s1]
      have hC' : CN m' (adF T v u) := by
        obtain ⟨y1, y2, y3, y4, y5⟩ := hC
        have eo : ∀ n, ocN (tU T 0 3 (T 0 3 + 1)) ((tU T 0 3 (T 0 3 + 1)) 3) n = ocN T (T 3) n := by
          intro n
          induction n with
          | zero => rfl
          | succ n ih => unfold ocN; rw [ih]; simp [tU]
        have := r6 (tU T 0 3 (T 0 3 + 1)) (by
          refine ⟨?_, ?_, ?_, ?_, ?_⟩
          · rw [hm0, up2_n (by decide), y1]; simp [tU]
          · rw [m021]; simp [tU]
          · rw [hm0, up2_n (by decide), y3, eo]; simp [tU]
          · rw [hm0, up2_n (by decide), y4]; simp [tU]
          · rw [hm0, up2_s]; simp [tU])
        obtain ⟨z1, z2, z3, z4, z5⟩ := this
        rw [eo] at z3
        refine ⟨?_, ?_, ?_, ?_, ?_⟩
        · rw [z1]; simp [adF, tU]
        · rw [z2]; simp [adF, tU]
        · rw [z3, adF_oc]; simp [adF, tU]
        · rw [z4]; simp [adF, tU]
        · rw [z5]; simp [adF, tU]
      refine ⟨_, t', m', tk', _, v, u, rfl, rfl, d2, d5, r2, s2, IT_adF hI h6 v2 u2 c, hC', ?_, ⟨?_, fun _ => r3, fun _ => r4⟩, f0.trans r5⟩
      · unfold okA; omega
      · rw [r7, hm0, up2_r (by decide)]; exact h7
  · have h8' : T 0 3 = 6 := by omega
    have hf := r_fails h14
    left
    simp (disch := omega) only [nm, jn0, jn1, jn2, jn3, jn4, jn5, bnd1_s, bnd2_s, bnd3_s, bnd4_s, lit_n, neg1, chkI_n, chkZ_n, chkC_n, bI_B, chkB_0, chkB_1, bI_t, bI_f, clamp_n, nI_add, subn, remn2, nat_rem, divn, pk_mul, ifle_t, ifle_f, iflt_t, iflt_f, ifeq_t, ifeq_f, ifm_f, ifm_t, if_true, if_false, t3, c24, h8', hf]
    exact ⟨_, _, _, _, _, _, rfl, rfl, hX, h3, hbL, up2_s, fPs_up (by decide) (by decide) (by decide) (by decide)⟩
theorem tU0_oc {T : NN} {j v : Nat} (hj : j ≠ 0) : ∀ {n : Nat}, ocN (tU T 0 j v) ((tU T 0 j v) 3) n = ocN T (T 3) n := by
  intro n
  induction n with
  | zero => rfl
  | succ n ih =>
    unfold ocN
    rw [ih]
    have : ¬ (0 = j) := fun z => hj z.symm
    simp [tU, this]
theorem CN_law {m : GS} {T : NN} {j v : Nat} (h : CN m T) (hj : 4 ≤ j) : CN m (tU T 0 j v) := by
  obtain ⟨y1, y2, y3, y4, y5⟩ := h
  have e : ∀ i, i < 4 → (tU T 0 j v) 0 i = T 0 i := fun i hi => by simp [tU]; omega
  refine ⟨?_, ?_, ?_, ?_, ?_⟩
  · rw [e 0 (by decide)]; exact y1
  · rw [e 1 (by decide)]; exact y2
  · rw [tU0_oc (by omega), e 1 (by decide)]; exact y3
  · rw [e 2 (by decide)]; exact y4
  · rw [e 3 (by decide)]; exact y5
theorem RT_law {tT : GS} {T : NN} {v : Nat} (h : RT tT T) : RT (up2 tT 0 4 (nI v)) (tU T 0 4 v) := by
  obtain ⟨⟨t0, t1, t2, t3, t4, t5, t6⟩, r1, r2, r3, r4, r5, r6, r7⟩ := h
  refine ⟨⟨?_, ?_, ?_, ?_, ?_, ?_, ?_⟩, fun q hq => ?_, fun q hq => ?_, fun q hq => ?_, fun q hq => ?_, fun q hq => ?_, fun q hq => ?_, fun q hq => ?_⟩
  · rw [up2_n (by decide), t0]; simp [tU]
  · rw [up2_n (by decide), t1]; simp [tU]
  · rw [up2_n (by decide), t2]; simp [tU]
  · rw [up2_n (by decide), t3]; simp [tU]
  · rw [up2_s]; simp [tU]
  · rw [up2_n (by decide), t5]; simp [tU]
  · rw [up2_n (by decide), t6]; exact congrArg nI (ocN_cg (by simp [tU]) (by simp [tU]) (fun h => by simp [tU]) (fun h => by simp [tU]))
  · rw [up2_r (by decide), r1 q hq]; simp [tU]
  · rw [up2_r (by decide), r2 q hq]; simp [tU]
  · rw [up2_r (by decide), r3 q hq]; simp [tU]
  · rw [up2_r (by decide), r4 q hq]; simp [tU]
  · rw [up2_r (by decide), r5 q hq]; simp [tU]
  · rw [up2_r (by decide), r6 q hq]; simp [tU]
  · rw [up2_r (by decide), r7 q hq]; simp [tU]
theorem RT_seed {tT : GS} {T : NN} {v : Nat} (h : RT tT T) : RT (up2 tT 0 5 (nI v)) (tU T 0 5 v) := by
  obtain ⟨⟨t0, t1, t2, t3, t4, t5, t6⟩, r1, r2, r3, r4, r5, r6, r7⟩ := h
  refine ⟨⟨?_, ?_, ?_, ?_, ?_, ?_, ?_⟩, fun q hq => ?_, fun q hq => ?_, fun q hq => ?_, fun q hq => ?_, fun q hq => ?_, fun q hq => ?_, fun q hq => ?_⟩
  · rw [up2_n (by decide), t0]; simp [tU]
  · rw [up2_n (by decide), t1]; simp [tU]
  · rw [up2_n (by decide), t2]; simp [tU]
  · rw [up2_n (by decide), t3]; simp [tU]
  · rw [up2_n (by decide), t4]; simp [tU]
  · rw [up2_s]; simp [tU]
  · rw [up2_n (by decide), t6]; exact congrArg nI (ocN_cg (by simp [tU]) (by simp [tU]) (fun h => by simp [tU]) (fun h => by simp [tU]))
  · rw [up2_r (by decide), r1 q hq]; simp [tU]
  · rw [up2_r (by decide), r2 q hq]; simp [tU]
  · rw [up2_r (by decide), r3 q hq]; simp [tU]
  · rw [up2_r (by decide), r4 q hq]; simp [tU]
  · rw [up2_r (by decide), r5 q hq]; simp [tU]
  · rw [up2_r (by decide), r6 q hq]; simp [tU]
  · rw [up2_r (by decide), r7 q hq]; simp [tU]
theorem l_lot {L b e ln w : Nat} {Bt : Nat → Nat} {xT tT m : GS} {T : NN} (tk : Int64) (H : AtW L Bt b e ln w 11 xT tT m T) : LFS L Bt ln w T 11 (MX2_readLot xT tT) (MX5_isNumber m tk (nI w + (1 : Int32)) (1 : Int32) (9999 : Int32)) m := by
  obtain ⟨hX, h3, hbL, heL, hT, hI, hM, h14, hC, h7, hw⟩ := H
  obtain ⟨xT', a1, a2, a3, a4, a5⟩ := p_readNumber hX heL (lo := 1) (h := 10000) (md := 4) (m := nI 9999) (by decide) (by decide) (hm_n (h := 10000) (by decide) (by decide))
  obtain ⟨m', b1, b2, b3, b4, b5, b6⟩ := r_isNumber hM heL tk (w := w + 1) (lo := 1) (h := 10000) (md := 4) (m := nI 9999) (by omega) (by decide) (Or.inr ⟨by decide, rfl⟩) (hm_n (h := 10000) (by decide) (by decide))
  unfold MX2_readLot
  cases q : nb Bt (tB L Bt e) (tE L Bt (tB L Bt e)) 1 10000 4 with
  | none =>
    rw [q] at a1 b1
    left
    simp (disch := omega) only [nm, jn0, jn1, jn2, jn3, jn4, jn5, bnd1_s, bnd2_s, bnd3_s, bnd4_s, lit_n, neg1, chkI_n, chkZ_n, chkC_n, bI_B, chkB_0, chkB_1, bI_t, bI_f, clamp_n, nI_add, subn, remn2, nat_rem, divn, pk_mul, ifle_t, ifle_f, iflt_t, iflt_f, ifeq_t, ifeq_f, ifm_f, ifm_t, if_true, if_false, a1, b1, oI, Option.isSome_none]
    exact ⟨_, _, _, _, _, _, rfl, rfl, a2, a3, by omega, b4 q, b2.p (by omega) (by omega)⟩
  | some v =>
    rw [q] at a1 b1
    have e7 := b5 v q
    obtain ⟨v1, v2⟩ := nb_some q
    right
    simp (disch := omega) only [nm, jn0, jn1, jn2, jn3, jn4, jn5, bnd1_s, bnd2_s, bnd3_s, bnd4_s, lit_n, neg1, chkI_n, chkZ_n, chkC_n, bI_B, chkB_0, chkB_1, bI_t, bI_f, clamp_n, nI_add, subn, remn2, nat_rem, divn, pk_mul, ifle_t, ifle_f, iflt_t, iflt_f, ifeq_t, ifeq_f, ifm_f, ifm_t, if_true, if_false, a1, b1, oI, Option.isSome_some]
    refine ⟨_, _, _, _, _, v, 0, rfl, rfl, a2, a5, b3, RT_seed (RT_law hT), IT_0 (IT_0 hI (Or.inl ⟨rfl, by decide⟩)) (Or.inr ⟨rfl, by omega⟩), CN_law (CN_law (hC.N b2) (by decide)) (by decide), ?_, ⟨?_, fun _ => e7, fun z => by omega⟩, b2.p (by omega) (by omega)⟩
    · unfold okA; omega
    · rw [b2 7 w (by simp) (by omega)]; exact h7
