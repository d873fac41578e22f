/-! reading the text -/
theorem tkn_2 {L b : Nat} {Bt : Nat → Nat} (hb : b < L) : ¬ tkn L Bt b = -2 := by
  cases e : isL (Bt b) with
  | true => exact (tkn_ne1 hb e).2.1
  | false =>
    unfold tkn
    rw [if_neg (by omega), e, if_neg Bool.false_ne_true]
    split
    · decide
    · split <;> decide
theorem tkn_e {L : Nat} {Bt : Nat → Nat} : tkn L Bt L = -2 := by unfold tkn; rw [if_pos rfl]
theorem tkn_59 {L b : Nat} {Bt : Nat → Nat} (hb : b < L) (h : Bt b = 59) : tkn L Bt b = -3 := by
  unfold tkn
  rw [if_neg (by omega), h]
  rfl
theorem tkn_n3 {L b : Nat} {Bt : Nat → Nat} (hb : b < L) (h : ¬ Bt b = 59) : ¬ tkn L Bt b = -3 := by
  cases e : isL (Bt b) with
  | true => exact (tkn_ne1 hb e).2.2
  | false =>
    unfold tkn
    rw [if_neg (by omega), e, if_neg Bool.false_ne_true, if_neg h]
    split
    · decide
    · first | decide | (rw [if_neg h]; decide)
noncomputable def K5 : GS → GS → Option (Int32 × GS × GS) := fun x t => some (x 0 3, x, t)
noncomputable def K11 : GS → GS → Option (Int32 × GS × GS) := fun x t => some ((-1 : Int32), x, t)
noncomputable def K16 : GS → Int64 → Option (Int32 × GS × Int64) := fun (mM_14 : GS) (tk_15 : Int64) => jn2 (fun (mM_17 : GS) (x18 : Int32) => chkB x18 (some (x18, mM_17, tk_15))) (fun k19 => jn1 (fun (mM_21 : GS) => k19 mM_21 (1 : Int32)) (fun k22 => if (lg_cmp tk_15 (-2 : Int64)) = 0 then (k22 mM_14) else (bnd2 (MX5_fails mM_14) fun (r24 : Int32) (mM_25 : GS) => if r24 = 0 then (k19 mM_25 (0 : Int32)) else (k22 mM_25))))
noncomputable def K30 : GS → Int64 → Option (Int32 × GS × Int64) := fun (mM_28 : GS) (tk_29 : Int64) => some ((0 : Int32), mM_28, tk_29)
theorem K16_t {m : GS} : K16 m (-2) = some (nI 1, m, -2) := by
  unfold K16
  simp (disch := omega) only [nm, jn0, jn1, jn2, jn3, jn4, jn5, bnd1_s, bnd2_s, bnd3_s, bnd4_s, lit_n, neg1, chkI_n, chkZ_n, chkC_n, bI_B, chkB_0, chkB_1, bI_t, bI_f, clamp_n, nI_add, subn, remn2, nat_rem, divn, pk_mul, ifle_t, ifle_f, iflt_t, iflt_f, ifeq_t, ifeq_f, ifm_f, ifm_t, if_true, if_false, iflc_s]
theorem K16_f {m : GS} {tk : Int64} {b : Nat} (h : ¬ tk = -2) (h14 : m 0 14 = nI b) : K16 m tk = some (nI 0, up2 m 0 18 (nI b), tk) := by
  have hf := r_fails h14
  unfold K16
  simp (disch := omega) only [nm, jn0, jn1, jn2, jn3, jn4, jn5, bnd1_s, bnd2_s, bnd3_s, bnd4_s, lit_n, neg1, chkI_n, chkZ_n, chkC_n, bI_B, chkB_0, chkB_1, bI_t, bI_f, clamp_n, nI_add, subn, remn2, nat_rem, divn, pk_mul, ifle_t, ifle_f, iflt_t, iflt_f, ifeq_t, ifeq_f, ifm_f, ifm_t, if_true, if_false, iflc_f h, hf]
def recR (m : GS) : NN → Nat → List (Nat × Nat × Nat) → Prop
  | _, _, [] => True
  | T, k, (c, a1, a2) :: ls => okA T c a1 ∧ lineR m (3 * k) c a1 a2 ∧ recR m (doA T c a1 a2) (k + 1) ls
def apL : NN → List (Nat × Nat × Nat) → NN
  | T, [] => T
  | T, (c, a1, a2) :: ls => apL (doA T c a1 a2) ls
def fRd (k : Nat) (g g' : GS) : Prop := ∀ i j, (i = 0 → j < 13 ∨ j = 15 ∨ 24 < j) → (i = 7 → j < 3 * k) → g' i j = g i j
theorem fRd.refl {k : Nat} {g : GS} : fRd k g g := fun _ _ _ _ => rfl
theorem fRd.trans {k : Nat} {g g' g'' : GS} (h : fRd k g g') (h' : fRd k g' g'') : fRd k g g'' := fun i j a b => (h' i j a b).trans (h i j a b)
theorem fPs.rd {k : Nat} {g g' : GS} (h : fPs g g' (3 * k)) : fRd k g g' := fun i j a b => h i j (fun z => by have := a z; omega) (fun z => by have := b z; omega)
theorem fTk.rd {k : Nat} {g g' : GS} (h : fTk g g') : fRd k g g' := (h.p (w := 3 * k)).rd
theorem fRd.s {k : Nat} {g g' : GS} (h : fRd (k + 1) g g') : fRd k g g' := fun i j a b => h i j a (fun z => by have := b z; omega)
theorem fRd_up {k j : Nat} {g : GS} {v : Int32} (h : 13 ≤ j ∧ j ≤ 24 ∧ j ≠ 15) : fRd k g (up2 g 0 j v) := fun a i p _ => by
  by_cases c : a = 0
  · subst c
    have := p rfl
    rw [up2_n (by omega)]
  · rw [up2_r c]
def RES (L : Nat) (Bt : Nat → Nat) (k : Nat) (T : NN) (A : Option (Int32 × GS × GS)) (Bo : Option (Int32 × GS × Int64)) (mM : GS) : Prop :=
  (∃ xT' tT' m' tk' f e ln, A = some (nI f, xT', tT') ∧ f ≤ L ∧ Bo = some (nI 0, m', tk') ∧ XT xT' L Bt e ln ∧ m' 0 18 = nI f ∧ fRd k mM m') ∨
  (∃ xT' tT' m' tk' e ls, A = some (mI, xT', tT') ∧ Bo = some (nI 1, m', tk') ∧ XT xT' L Bt e (k + ls.length) ∧ k + ls.length ≤ 12 ∧ RT tT' (apL T ls) ∧ IT (apL T ls) ∧ m' 0 19 = nI (k + ls.length) ∧ recR m' T k ls ∧ fRd k mM m')
theorem lineR.f {m m' : GS} {k c a1 a2 : Nat} (h : lineR m (3 * k) c a1 a2) (f : fRd (k + 1) m m') : lineR m' (3 * k) c a1 a2 := by
  have e : ∀ j, j < 3 * (k + 1) → m' 7 j = m 7 j := fun j hj => f 7 j (by simp) (fun _ => hj)
  obtain ⟨a, b, c⟩ := h
  exact ⟨by rw [e _ (by omega)]; exact a, fun z => by rw [e _ (by omega)]; exact b z, fun z => by rw [e _ (by omega)]; exact c z⟩
theorem XT_ln {x : GS} {L e ln v : Nat} {Bt : Nat → Nat} (h : XT x L Bt e ln) : XT (up2 x 0 2 (nI v)) L Bt e v := by
  obtain ⟨a, b, c, d, f⟩ := h
  exact ⟨by rw [up2_n (by decide)]; exact a, up2_s, by rw [up2_n (by decide)]; exact c, d, fun i hi => by rw [up2_r (by decide)]; exact f i hi⟩
set_option maxHeartbeats 4000000 in
theorem l_read {L : Nat} {Bt : Nat → Nat} : ∀ (d k n1 n2 : Nat), k + d = 11 → d + 2 ≤ n1 → d + 2 ≤ n2 → ∀ (xT tT mM : GS) (tk : Int64) (T : NN) (p : Nat), XT xT L Bt p (k + 1) → p ≤ L → RT tT T → IT T → MT mM L Bt p → CN mM T → mM 0 19 = nI k → RES L Bt k T (lq2 (BX2_readInto_10 K5 K5 K5 K11) n1 xT tT) (lq3 (BX5_isRead_112 K16 K30) n2 (nI 1) mM tk) mM := by
  intro d
  induction d with
  | zero =>
    intro k n1 n2 hk hn1 hn2 xT tT mM tk T p hX hp hT hI hM hC h19
    obtain ⟨q1, rfl⟩ : ∃ q, n1 = q + 1 := ⟨n1 - 1, by omega⟩
    obtain ⟨q2, rfl⟩ : ∃ q, n2 = q + 1 := ⟨n2 - 1, by omega⟩
    show RES L Bt k T (BX2_readInto_10 K5 K5 K5 K11 (lq2 (BX2_readInto_10 K5 K5 K5 K11) q1) xT tT) (BX5_isRead_112 K16 K30 (lq3 (BX5_isRead_112 K16 K30) q2) (nI 1) mM tk) mM
    obtain ⟨x1, s1, s2, s3, s4, s5⟩ := p_step hX hp
    have e2 := hX.2.1
    have hw36 : 3 * k + 2 < 36 := by omega
    rcases l_line (w := 3 * k) tk s2 s3 hp hT hI hM hC hw36 with ⟨xT', tT', m', tk', b, e, h1, h2, h3, h4, h5, h6, h7⟩ | ⟨c, xT', tT', m', tk', e, a1, a2, h1, h2, h3, h4, h5, h6, h7, h8, h9, h10, h11⟩
    · left
      unfold BX2_readInto_10 BX5_isRead_112
      simp (disch := omega) only [nm, jn0, jn1, jn2, jn3, jn4, jn5, bnd1_s, bnd2_s, bnd3_s, bnd4_s, lit_n, neg1, chkI_n, chkZ_n, chkC_n, bI_B, chkB_0, chkB_1, bI_t, bI_f, clamp_n, nI_add, subn, remn2, nat_rem, divn, pk_mul, ifle_t, ifle_f, iflt_t, iflt_f, ifeq_t, ifeq_f, ifm_f, ifm_t, if_true, if_false, e2, s1, h1, h19, h2]
      exact ⟨xT', tT', m', tk', b, e, k + 1, by unfold K5; rw [h4], h5, rfl, h3, h6, h7.rd⟩
    · obtain ⟨x2, u1, u2, u3, u4, u5⟩ := p_step h3 h4
      obtain ⟨g0, hg0⟩ : ∃ g0, g0 = up2 m' 0 19 (nI (k + 1)) := ⟨_, rfl⟩
      have f19 : m' 0 19 = nI k := by rw [h11 0 19 (by decide) (by simp)]; exact h19
      have fg0 : fRd k m' g0 := by rw [hg0]; exact fRd_up (by decide)
      have M0 : MT g0 L Bt e := by rw [hg0]; exact MT_up h5 (by decide)
      have C0 : CN g0 (doA T c a1 a2) := by rw [hg0]; exact CN_up h8 (by decide)
      have R0 : lineR g0 (3 * k) c a1 a2 := by
        obtain ⟨z1, z2, z3⟩ := h10
        rw [hg0]
        exact ⟨by rw [up2_r (by decide)]; exact z1, fun z => by rw [up2_r (by decide)]; exact z2 z, fun z => by rw [up2_r (by decide)]; exact z3 z⟩
      obtain ⟨m3, v1, v2, v3, v4, v5⟩ := r_nextToken M0 h4 tk'
      have hb2 : e ≤ tB L Bt e ∧ tB L Bt e ≤ L := rn_le (g := fun i => decide (Bt i = 32)) h4
      have hREF : ∀ (R : Int32 → GS → Int64 → Option (Int32 × GS × Int64)), BX5_isRead_112 K16 K30 R (nI 1) mM tk = jn1 (fun (x46 : Int32) => R x46 m3 (tkn L Bt (tB L Bt e))) (fun k47 => jn0 (k47 (0 : Int32)) (fun k48 => if (lg_cmp (tkn L Bt (tB L Bt e)) (-3 : Int64)) = 0 then (if (12 : Int32) ≤ (m3 0 19) then (k48) else (k47 (1 : Int32))) else (k48))) := by
        intro R
        unfold BX5_isRead_112
        rw [if_neg (show ¬ nI 1 = 0 by decide), h19, show (3 : Int32) * nI k = nI (3 * k) from pk_mul 3 k, h2, bnd3_s, if_neg (show ¬ nI 1 = 0 by decide), f19, show nI k + (1 : Int32) = nI (k + 1) from nI_add k 1, nm_c, nm_c, ← hg0, v1, bnd2_s]
      have hCLS : ∀ (R : GS → GS → Option (Int32 × GS × GS)), BX2_readInto_10 K5 K5 K5 K11 R xT tT = if (x2 0 3) < (x2 0 1) then (chkI (x2 0 3) 200 (if (x2 1 (x2 0 3).toNatClampNeg) = (59 : Int32) then (nm ((x2 0 2) + (1 : Int32)) fun (x31 : Int32) => nm (up2 x2 0 2 x31) fun (xT_32 : GS) => R xT_32 tT') else (K5 x2 tT'))) else (K11 x2 tT') := by
        intro R
        unfold BX2_readInto_10
        rw [e2, show (12 : Int32) = nI 12 from rfl, if_neg (nI_nlt (by omega) (by omega)), s1, bnd1_s, h1, bnd3_s, if_neg (show ¬ nI 1 = 0 by decide), u1, bnd1_s]
      have x11 := u2.1
      have m19 : m3 0 19 = nI (k + 1) := by rw [v2 0 19 (by decide), hg0, up2_s]
      have R3 : lineR m3 (3 * k) c a1 a2 := R0.f v2.rd
      have C3 := CN_t C0 v2
      have F3 : fRd k mM m3 := h11.rd.trans (fg0.trans v2.rd)
      have hL2 := h5.2.2.1
      by_cases c0 : tB L Bt e = L
      · -- the end
        right
        have etk : tkn L Bt (tB L Bt e) = -2 := by rw [c0]; exact tkn_e
        have hex : (lq3 (BX5_isRead_112 K16 K30) q2) (nI 0) m3 (-2) = some (nI 1, m3, -2) := by
          obtain ⟨q3, rfl⟩ : ∃ q, q2 = q + 1 := ⟨q2 - 1, by omega⟩
          show BX5_isRead_112 K16 K30 (lq3 (BX5_isRead_112 K16 K30) q3) (nI 0) m3 (-2) = _
          unfold BX5_isRead_112
          simp (disch := omega) only [nm, jn0, jn1, jn2, jn3, jn4, jn5, bnd1_s, bnd2_s, bnd3_s, bnd4_s, lit_n, neg1, chkI_n, chkZ_n, chkC_n, bI_B, chkB_0, chkB_1, bI_t, bI_f, clamp_n, nI_add, subn, remn2, nat_rem, divn, pk_mul, ifle_t, ifle_f, iflt_t, iflt_f, ifeq_t, ifeq_f, ifm_f, ifm_t, if_true, if_false, K16_t]
        have n3 : ¬ (-2 : Int64) = -3 := by decide
        rw [hCLS, hREF, etk]
        simp (disch := omega) only [nm, jn0, jn1, jn2, jn3, jn4, jn5, bnd1_s, bnd2_s, bnd3_s, bnd4_s, lit_n, neg1, chkI_n, chkZ_n, chkC_n, bI_B, chkB_0, chkB_1, bI_t, bI_f, clamp_n, nI_add, subn, remn2, nat_rem, divn, pk_mul, ifle_t, ifle_f, iflt_t, iflt_f, ifeq_t, ifeq_f, ifm_f, ifm_t, if_true, if_false, u3, x11, c0, iflc_f n3, hex]
        exact ⟨x2, tT', m3, -2, _, [(c, a1, a2)], rfl, rfl, u2, by simp only [List.length_cons, List.length_nil]; omega, h6, h7, m19, ⟨h9, R3, trivial⟩, F3⟩
      · have hlt : tB L Bt e < L := by omega
        have hL200 := h5.2.2.1
        obtain ⟨y1, y2⟩ := u2.2.2.2.2 (tB L Bt e) hlt
        by_cases c1 : Bt (tB L Bt e) = 59
        · have etk : tkn L Bt (tB L Bt e) = -3 := tkn_59 hlt c1
          rw [c1] at y1
          have e22 := u2.2.1
          have X2 : XT (up2 x2 0 2 (nI (k + 1 + 1))) L Bt (tE L Bt (tB L Bt e)) (k + 1 + 1) := XT_ln u2
          -- twelve lines are read: no more
          left
          have n2 : ¬ (-3 : Int64) = -2 := by decide
          have hex : (lq3 (BX5_isRead_112 K16 K30) q2) (nI 0) m3 (-3) = some (nI 0, up2 m3 0 18 (nI (tB L Bt e)), -3) := by
            obtain ⟨q3, rfl⟩ : ∃ q, q2 = q + 1 := ⟨q2 - 1, by omega⟩
            show BX5_isRead_112 K16 K30 (lq3 (BX5_isRead_112 K16 K30) q3) (nI 0) m3 (-3) = _
            unfold BX5_isRead_112
            simp (disch := omega) only [nm, jn0, jn1, jn2, jn3, jn4, jn5, bnd1_s, bnd2_s, bnd3_s, bnd4_s, lit_n, neg1, chkI_n, chkZ_n, chkC_n, bI_B, chkB_0, chkB_1, bI_t, bI_f, clamp_n, nI_add, subn, remn2, nat_rem, divn, pk_mul, ifle_t, ifle_f, iflt_t, iflt_f, ifeq_t, ifeq_f, ifm_f, ifm_t, if_true, if_false, K16_f n2 v4]
          have hcl : (lq2 (BX2_readInto_10 K5 K5 K5 K11) q1) (up2 x2 0 2 (nI (k + 1 + 1))) tT' = some (nI (tB L Bt e), up2 x2 0 2 (nI (k + 1 + 1)), tT') := by
            obtain ⟨q3, rfl⟩ : ∃ q, q1 = q + 1 := ⟨q1 - 1, by omega⟩
            show BX2_readInto_10 K5 K5 K5 K11 (lq2 (BX2_readInto_10 K5 K5 K5 K11) q3) (up2 x2 0 2 (nI (k + 1 + 1))) tT' = _
            unfold BX2_readInto_10
            simp (disch := omega) only [nm, jn0, jn1, jn2, jn3, jn4, jn5, bnd1_s, bnd2_s, bnd3_s, bnd4_s, lit_n, neg1, chkI_n, chkZ_n, chkC_n, bI_B, chkB_0, chkB_1, bI_t, bI_f, clamp_n, nI_add, subn, remn2, nat_rem, divn, pk_mul, ifle_t, ifle_f, iflt_t, iflt_f, ifeq_t, ifeq_f, ifm_f, ifm_t, if_true, if_false, up2_s]
            unfold K5
            rw [up2_n (by decide), u3]
          rw [hCLS, hREF, etk]
          simp (disch := omega) only [nm, jn0, jn1, jn2, jn3, jn4, jn5, bnd1_s, bnd2_s, bnd3_s, bnd4_s, lit_n, neg1, chkI_n, chkZ_n, chkC_n, bI_B, chkB_0, chkB_1, bI_t, bI_f, clamp_n, nI_add, subn, remn2, nat_rem, divn, pk_mul, ifle_t, ifle_f, iflt_t, iflt_f, ifeq_t, ifeq_f, ifm_f, ifm_t, if_true, if_false, u3, x11, y1, e22, hcl, iflc_s, m19, hex]
          exact ⟨_, tT', _, _, tB L Bt e, _, k + 1 + 1, rfl, hb2.2, rfl, X2, up2_s, F3.trans (fRd_up (by decide))⟩
        · left
          have n2 := tkn_2 (Bt := Bt) hlt
          have n3 := tkn_n3 hlt c1
          have hex : (lq3 (BX5_isRead_112 K16 K30) q2) (nI 0) m3 (tkn L Bt (tB L Bt e)) = some (nI 0, up2 m3 0 18 (nI (tB L Bt e)), tkn L Bt (tB L Bt e)) := by
            obtain ⟨q3, rfl⟩ : ∃ q, q2 = q + 1 := ⟨q2 - 1, by omega⟩
            show BX5_isRead_112 K16 K30 (lq3 (BX5_isRead_112 K16 K30) q3) (nI 0) m3 (tkn L Bt (tB L Bt e)) = _
            unfold BX5_isRead_112
            simp (disch := omega) only [nm, jn0, jn1, jn2, jn3, jn4, jn5, bnd1_s, bnd2_s, bnd3_s, bnd4_s, lit_n, neg1, chkI_n, chkZ_n, chkC_n, bI_B, chkB_0, chkB_1, bI_t, bI_f, clamp_n, nI_add, subn, remn2, nat_rem, divn, pk_mul, ifle_t, ifle_f, iflt_t, iflt_f, ifeq_t, ifeq_f, ifm_f, ifm_t, if_true, if_false, K16_f n2 v4]
          rw [hCLS, hREF]
          simp (disch := omega) only [nm, jn0, jn1, jn2, jn3, jn4, jn5, bnd1_s, bnd2_s, bnd3_s, bnd4_s, lit_n, neg1, chkI_n, chkZ_n, chkC_n, bI_B, chkB_0, chkB_1, bI_t, bI_f, clamp_n, nI_add, subn, remn2, nat_rem, divn, pk_mul, ifle_t, ifle_f, iflt_t, iflt_f, ifeq_t, ifeq_f, ifm_f, ifm_t, if_true, if_false, u3, x11, y1, iflc_f n3, hex]
          exact ⟨x2, tT', _, _, tB L Bt e, _, k + 1, by unfold K5; rw [u3], hb2.2, rfl, u2, up2_s, F3.trans (fRd_up (by decide))⟩
  | succ d ih =>
    intro k n1 n2 hk hn1 hn2 xT tT mM tk T p hX hp hT hI hM hC h19
    obtain ⟨q1, rfl⟩ : ∃ q, n1 = q + 1 := ⟨n1 - 1, by omega⟩
    obtain ⟨q2, rfl⟩ : ∃ q, n2 = q + 1 := ⟨n2 - 1, by omega⟩
    show RES L Bt k T (BX2_readInto_10 K5 K5 K5 K11 (lq2 (BX2_readInto_10 K5 K5 K5 K11) q1) xT tT) (BX5_isRead_112 K16 K30 (lq3 (BX5_isRead_112 K16 K30) q2) (nI 1) mM tk) mM
    obtain ⟨x1, s1, s2, s3, s4, s5⟩ := p_step hX hp
    have e2 := hX.2.1
    have hw36 : 3 * k + 2 < 36 := by omega
    rcases l_line (w := 3 * k) tk s2 s3 hp hT hI hM hC hw36 with ⟨xT', tT', m', tk', b, e, h1, h2, h3, h4, h5, h6, h7⟩ | ⟨c, xT', tT', m', tk', e, a1, a2, h1, h2, h3, h4, h5, h6, h7, h8, h9, h10, h11⟩
    · left
      unfold BX2_readInto_10 BX5_isRead_112
      simp (disch := omega) only [nm, jn0, jn1, jn2, jn3, jn4, jn5, bnd1_s, bnd2_s, bnd3_s, bnd4_s, lit_n, neg1, chkI_n, chkZ_n, chkC_n, bI_B, chkB_0, chkB_1, bI_t, bI_f, clamp_n, nI_add, subn, remn2, nat_rem, divn, pk_mul, ifle_t, ifle_f, iflt_t, iflt_f, ifeq_t, ifeq_f, ifm_f, ifm_t, if_true, if_false, e2, s1, h1, h19, h2]
      exact ⟨xT', tT', m', tk', b, e, k + 1, by unfold K5; rw [h4], h5, rfl, h3, h6, h7.rd⟩
    · obtain ⟨x2, u1, u2, u3, u4, u5⟩ := p_step h3 h4
      obtain ⟨g0, hg0⟩ : ∃ g0, g0 = up2 m' 0 19 (nI (k + 1)) := ⟨_, rfl⟩
      have f19 : m' 0 19 = nI k := by rw [h11 0 19 (by decide) (by simp)]; exact h19
      have fg0 : fRd k m' g0 := by rw [hg0]; exact fRd_up (by decide)
      have M0 : MT g0 L Bt e := by rw [hg0]; exact MT_up h5 (by decide)
      have C0 : CN g0 (doA T c a1 a2) := by rw [hg0]; exact CN_up h8 (by decide)
      have R0 : lineR g0 (3 * k) c a1 a2 := by
        obtain ⟨z1, z2, z3⟩ := h10
        rw [hg0]
        exact ⟨by rw [up2_r (by decide)]; exact z1, fun z => by rw [up2_r (by decide)]; exact z2 z, fun z => by rw [up2_r (by decide)]; exact z3 z⟩
      obtain ⟨m3, v1, v2, v3, v4, v5⟩ := r_nextToken M0 h4 tk'
      have hb2 : e ≤ tB L Bt e ∧ tB L Bt e ≤ L := rn_le (g := fun i => decide (Bt i = 32)) h4
      have hREF : ∀ (R : Int32 → GS → Int64 → Option (Int32 × GS × Int64)), BX5_isRead_112 K16 K30 R (nI 1) mM tk = jn1 (fun (x46 : Int32) => R x46 m3 (tkn L Bt (tB L Bt e))) (fun k47 => jn0 (k47 (0 : Int32)) (fun k48 => if (lg_cmp (tkn L Bt (tB L Bt e)) (-3 : Int64)) = 0 then (if (12 : Int32) ≤ (m3 0 19) then (k48) else (k47 (1 : Int32))) else (k48))) := by
        intro R
        unfold BX5_isRead_112
        rw [if_neg (show ¬ nI 1 = 0 by decide), h19, show (3 : Int32) * nI k = nI (3 * k) from pk_mul 3 k, h2, bnd3_s, if_neg (show ¬ nI 1 = 0 by decide), f19, show nI k + (1 : Int32) = nI (k + 1) from nI_add k 1, nm_c, nm_c, ← hg0, v1, bnd2_s]
      have hCLS : ∀ (R : GS → GS → Option (Int32 × GS × GS)), BX2_readInto_10 K5 K5 K5 K11 R xT tT = if (x2 0 3) < (x2 0 1) then (chkI (x2 0 3) 200 (if (x2 1 (x2 0 3).toNatClampNeg) = (59 : Int32) then (nm ((x2 0 2) + (1 : Int32)) fun (x31 : Int32) => nm (up2 x2 0 2 x31) fun (xT_32 : GS) => R xT_32 tT') else (K5 x2 tT'))) else (K11 x2 tT') := by
        intro R
        unfold BX2_readInto_10
        rw [e2, show (12 : Int32) = nI 12 from rfl, if_neg (nI_nlt (by omega) (by omega)), s1, bnd1_s, h1, bnd3_s, if_neg (show ¬ nI 1 = 0 by decide), u1, bnd1_s]
      have x11 := u2.1
      have m19 : m3 0 19 = nI (k + 1) := by rw [v2 0 19 (by decide), hg0, up2_s]
      have R3 : lineR m3 (3 * k) c a1 a2 := R0.f v2.rd
      have C3 := CN_t C0 v2
      have F3 : fRd k mM m3 := h11.rd.trans (fg0.trans v2.rd)
      have hL2 := h5.2.2.1
      by_cases c0 : tB L Bt e = L
      · -- the end
        right
        have etk : tkn L Bt (tB L Bt e) = -2 := by rw [c0]; exact tkn_e
        have hex : (lq3 (BX5_isRead_112 K16 K30) q2) (nI 0) m3 (-2) = some (nI 1, m3, -2) := by
          obtain ⟨q3, rfl⟩ : ∃ q, q2 = q + 1 := ⟨q2 - 1, by omega⟩
          show BX5_isRead_112 K16 K30 (lq3 (BX5_isRead_112 K16 K30) q3) (nI 0) m3 (-2) = _
          unfold BX5_isRead_112
          simp (disch := omega) only [nm, jn0, jn1, jn2, jn3, jn4, jn5, bnd1_s, bnd2_s, bnd3_s, bnd4_s, lit_n, neg1, chkI_n, chkZ_n, chkC_n, bI_B, chkB_0, chkB_1, bI_t, bI_f, clamp_n, nI_add, subn, remn2, nat_rem, divn, pk_mul, ifle_t, ifle_f, iflt_t, iflt_f, ifeq_t, ifeq_f, ifm_f, ifm_t, if_true, if_false, K16_t]
        have n3 : ¬ (-2 : Int64) = -3 := by decide
        rw [hCLS, hREF, etk]
        simp (disch := omega) only [nm, jn0, jn1, jn2, jn3, jn4, jn5, bnd1_s, bnd2_s, bnd3_s, bnd4_s, lit_n, neg1, chkI_n, chkZ_n, chkC_n, bI_B, chkB_0, chkB_1, bI_t, bI_f, clamp_n, nI_add, subn, remn2, nat_rem, divn, pk_mul, ifle_t, ifle_f, iflt_t, iflt_f, ifeq_t, ifeq_f, ifm_f, ifm_t, if_true, if_false, u3, x11, c0, iflc_f n3, hex]
        exact ⟨x2, tT', m3, -2, _, [(c, a1, a2)], rfl, rfl, u2, by simp only [List.length_cons, List.length_nil]; omega, h6, h7, m19, ⟨h9, R3, trivial⟩, F3⟩
      · have hlt : tB L Bt e < L := by omega
        have hL200 := h5.2.2.1
        obtain ⟨y1, y2⟩ := u2.2.2.2.2 (tB L Bt e) hlt
        by_cases c1 : Bt (tB L Bt e) = 59
        · have etk : tkn L Bt (tB L Bt e) = -3 := tkn_59 hlt c1
          rw [c1] at y1
          have e22 := u2.2.1
          have X2 : XT (up2 x2 0 2 (nI (k + 1 + 1))) L Bt (tE L Bt (tB L Bt e)) (k + 1 + 1) := XT_ln u2
          -- a line more
          have hrec := ih (k + 1) q1 q2 (by omega) (by omega) (by omega) (up2 x2 0 2 (nI (k + 1 + 1))) tT' m3 (-3) (doA T c a1 a2) (tE L Bt (tB L Bt e)) X2 u5 h6 h7 v3 C3 m19
          rw [hCLS, hREF, etk]
          simp (disch := omega) only [nm, jn0, jn1, jn2, jn3, jn4, jn5, bnd1_s, bnd2_s, bnd3_s, bnd4_s, lit_n, neg1, chkI_n, chkZ_n, chkC_n, bI_B, chkB_0, chkB_1, bI_t, bI_f, clamp_n, nI_add, subn, remn2, nat_rem, divn, pk_mul, ifle_t, ifle_f, iflt_t, iflt_f, ifeq_t, ifeq_f, ifm_f, ifm_t, if_true, if_false, u3, x11, y1, e22, iflc_s, m19]
          rcases hrec with ⟨xT9, tT9, m9, tk9, f, e9, ln, r1, r2, r3, r4, r5, r6⟩ | ⟨xT9, tT9, m9, tk9, e9, ls, r1, r2, r3, r4, r5, r6, r7, r8, r9⟩
          · left
            exact ⟨xT9, tT9, m9, tk9, f, e9, ln, r1, r2, r3, r4, r5, F3.trans r6.s⟩
          · right
            have hlen : k + ((c, a1, a2) :: ls).length = k + 1 + ls.length := by simp only [List.length_cons]; omega
            exact ⟨xT9, tT9, m9, tk9, e9, (c, a1, a2) :: ls, r1, r2, by rw [hlen]; exact r3, by rw [hlen]; exact r4, r5, r6, by rw [hlen]; exact r7, ⟨h9, R3.f r9, r8⟩, F3.trans r9.s⟩
        · left
          have n2 := tkn_2 (Bt := Bt) hlt
          have n3 := tkn_n3 hlt c1
          have hex : (lq3 (BX5_isRead_112 K16 K30) q2) (nI 0) m3 (tkn L Bt (tB L Bt e)) = some (nI 0, up2 m3 0 18 (nI (tB L Bt e)), tkn L Bt (tB L Bt e)) := by
            obtain ⟨q3, rfl⟩ : ∃ q, q2 = q + 1 := ⟨q2 - 1, by omega⟩
            show BX5_isRead_112 K16 K30 (lq3 (BX5_isRead_112 K16 K30) q3) (nI 0) m3 (tkn L Bt (tB L Bt e)) = _
            unfold BX5_isRead_112
            simp (disch := omega) only [nm, jn0, jn1, jn2, jn3, jn4, jn5, bnd1_s, bnd2_s, bnd3_s, bnd4_s, lit_n, neg1, chkI_n, chkZ_n, chkC_n, bI_B, chkB_0, chkB_1, bI_t, bI_f, clamp_n, nI_add, subn, remn2, nat_rem, divn, pk_mul, ifle_t, ifle_f, iflt_t, iflt_f, ifeq_t, ifeq_f, ifm_f, ifm_t, if_true, if_false, K16_f n2 v4]
          rw [hCLS, hREF]
          simp (disch := omega) only [nm, jn0, jn1, jn2, jn3, jn4, jn5, bnd1_s, bnd2_s, bnd3_s, bnd4_s, lit_n, neg1, chkI_n, chkZ_n, chkC_n, bI_B, chkB_0, chkB_1, bI_t, bI_f, clamp_n, nI_add, subn, remn2, nat_rem, divn, pk_mul, ifle_t, ifle_f, iflt_t, iflt_f, ifeq_t, ifeq_f, ifm_f, ifm_t, if_true, if_false, u3, x11, y1, iflc_f n3, hex]
          exact ⟨x2, tT', _, _, tB L Bt e, _, k + 1, by unfold K5; rw [u3], hb2.2, rfl, u2, up2_s, F3.trans (fRd_up (by decide))⟩
