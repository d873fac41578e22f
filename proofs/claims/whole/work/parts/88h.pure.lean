/-! nearest, the class -/
theorem RS.ps {gS : GS} {T S : NN} (h : RS gS T S 0) : PS gS T (S 1) := ⟨h.1, h.2.2.1, h.2.2.2.2.2.2⟩
theorem c_nearest {tT gN mM : GS} {T S : NN} (hB : BV tT gN mM T S) (gA zZ : GS) (lZ : Nat → Int64) {a b w : Nat} (ha : a < T 0 1) (hb : b < T 0 1) (hw : w ≤ 1) (hp : MX4_refusePair tT (nI a) (nI b) (nI w) = some (nI 0)) : ∃ gA' zZ' lZ', MX4_nearest tT gN gA zZ lZ (nI a) (nI b) (nI w) = some (ansN T a b (S 1) w, gA', zZ', lZ') := by
  obtain ⟨hT, hI, hR, hS, hNb, hM, hN⟩ := hB
  have i2 := hI.1.2.2.1
  have hIP := hS.ip
  have hbs := p_areBeside hT hI hR.1 hS.1 ha hb
  have w0 : w = 0 ∨ w = 1 := by omega
  unfold MX4_nearest
  rw [hp, bnd1_s, if_pos (show nI 0 = 0 from rfl), hbs, bnd1_s]
  cases e : bes T (S 1) a b with
  | true =>
    have hf : fst1 (fun n => rc T a b true n (S 1)) 6 = some 0 := fst1_some.mpr ⟨by decide, e, fun i h => absurd h (Nat.not_lt_zero _)⟩
    rw [bI_t, if_neg (show ¬ nI 1 = 0 by decide)]
    simp only [jn1]
    refine ⟨gA, zZ, lZ, ?_⟩
    unfold ansN
    rw [hf]
    rcases w0 with rfl | rfl
    · rfl
    · rfl
  | false =>
    rw [bI_f, if_pos (show nI 0 = 0 from rfl)]
    obtain ⟨g0, hc, hcR⟩ := p_copyS (gS := gA) hI hR
    obtain ⟨l0, hl, hl2⟩ := p_fillL 4096 (by decide) lZ (0 : Int64)
    have hprep : MX0_prepare zZ lZ (nI a) (nI b) = some (up2 (up2 (up2 zZ 0 3 (nI a)) 0 4 (nI b)) 0 5 (-1), l0) := by
      unfold MX0_prepare
      rw [nm_c, nm_c, nm_c, hl, bnd1_s]
    rw [hc, bnd1_s, hprep, bnd2_s]
    simp only [jn1, jn3, jn4]
    obtain ⟨z0, hz0⟩ : ∃ z0, z0 = up2 (up2 (up2 zZ 0 3 (nI a)) 0 4 (nI b)) 0 5 (-1) := ⟨_, rfl⟩
    rw [← hz0]
    have z3 : z0 0 3 = nI a := by rw [hz0, up2_n (by decide), up2_n (by decide), up2_s]
    have z4 : z0 0 4 = nI b := by rw [hz0, up2_n (by decide), up2_s]
    have D0 : DE T a b l0 := by
      intro P l h1 h2 hP h3
      have hs := (slK_n (kk T P l)).1
      rw [hl2 _ hs] at h3
      exfalso
      have a1 := pkk_lt (P := P) (n := T 0 1) (fun h hh => by have := hP.1 h hh; have := hI.1.2.1; omega)
      have a3 := pow16_le i2
      have h4 : lN 0 = lN (pkk P (T 0 1) * 8 + l) := h3
      have := (lN_inj (by omega) (by omega)).mp h4
      omega
    have hSR := SR_all hT hI ha hb
    obtain ⟨p, hpp⟩ : ∃ p, p = fun n => rc T a b true n (S 1) := ⟨_, rfl⟩
    have h0 : fst1 p 1 = none := fst1_none.mpr fun i hi => by
      have : i = 0 := by omega
      subst this; rw [hpp]; exact e
    refine lq4_rel (fun i (x : Int32) (g z : GS) (l : Nat → Int64) => x = nI (i + 1) ∧ PS g T (S 1) ∧ z 0 3 = nI a ∧ z 0 4 = nI b ∧ DE T a b l ∧ fst1 p (i + 1) = none) 5 (fun r => ∃ gA' zZ' lZ', r = some (ansN T a b (S 1) w, gA', zZ', lZ')) ?_ _ _ _ _ ⟨rfl, hcR.ps, z3, z4, D0, h0⟩ (FU_lt (by omega))
    rintro i x g z l hi ⟨rfl, hg, y3, y4, hD, hn⟩
    by_cases c : i < 5
    · obtain ⟨z', l', g', r1, r2, r3, r4, r5⟩ := hSR i c z l g (S 1) hg hIP y3 y4 hD
      have r1 : MX0_reaches z l g tT (nI (i + 1)) = some (bI (rc T a b false (i + 1) (S 1)), z', l', g') := r1
      have hall : ∀ m, m < i + 1 → rc T a b true m (S 1) = false := by
        intro m hm
        have := fst1_none.mp hn m hm
        rw [hpp] at this; exact this
      have heq := rc_eq (n := i + 1) hall
      have hrl := rl_eq (n := i) hall
      have hs := fst1_s0 hn
      rw [heq] at r1 r5
      cases f : rc T a b true (i + 1) (S 1) with
      | true =>
        have pe : p (i + 1) = true := by rw [hpp]; exact f
        rw [if_pos pe] at hs
        have h6 := fst1_mono (m := 6) hs (by omega)
        rw [f, bI_t] at r1
        have r5' := r5 f
        rw [hrl] at r5'
        refine Or.inr ⟨_, ⟨g', z', l', rfl⟩, fun rec => ?_⟩
        unfold BX4_nearest_62
        rw [if_neg (show ¬ (5 : Int32) < nI (i + 1) from nI_nlt (a := 5) (by omega) (by omega)), r1, bnd4_s, if_neg (show ¬ nI 1 = 0 by decide)]
        unfold ansN
        rw [hpp] at h6
        rw [h6]
        rcases w0 with rfl | rfl
        · rfl
        · show (if nI 1 = 0 then some (nI (i + 1), g', z', l') else some (z' 0 5, g', z', l')) = _
          rw [if_neg (show ¬ nI 1 = 0 by decide), r5']
          rfl
      | false =>
        have pe : ¬ p (i + 1) = true := by rw [hpp]; show ¬ rc T a b true (i + 1) (S 1) = true; rw [f]; decide
        rw [if_neg pe] at hs
        rw [f, bI_f] at r1
        refine Or.inl ⟨c, nI (i + 1 + 1), g', z', l', ⟨rfl, r2, r4.1, r4.2.1, r3, hs⟩, fun rec => ?_⟩
        unfold BX4_nearest_62
        rw [if_neg (show ¬ (5 : Int32) < nI (i + 1) from nI_nlt (a := 5) (by omega) (by omega)), r1, bnd4_s, if_pos (show nI 0 = 0 from rfl), show nI (i + 1) + (1 : Int32) = nI (i + 1 + 1) from nI_add (i + 1) 1, nm_c]
    · have : i = 5 := by omega
      subst this
      refine Or.inr ⟨_, ⟨g, z, l, rfl⟩, fun rec => ?_⟩
      unfold BX4_nearest_62
      rw [if_pos (show (5 : Int32) < nI (5 + 1) by decide)]
      unfold ansN
      rw [hpp] at hn
      rw [hn]
      rfl
theorem f_nearest {tT gN mM : GS} {T S : NN} (hB : BV tT gN mM T S) (gA zZ : GS) (lZ : Nat → Int64) (i1 i2 i3 : Int32) : ∃ r gA' zZ' lZ' m', MX4_nearest tT gN gA zZ lZ i1 i2 i3 = some (r, gA', zZ', lZ') ∧ MX5_nearest mM i1 i2 i3 = some (r, m') ∧ fFs mM m' := by
  have hB' := hB
  obtain ⟨hT, hI, hR, hS, hNb, hM, hN⟩ := hB'
  rcases pair_c hT hI hM i1 i2 i3 with ⟨c, h1, h2, h3⟩ | ⟨a, b, w, ha, hb, hne, hw, rfl, rfl, rfl, e1, e2, e3, e4⟩
  · obtain ⟨v, hv⟩ := in_b i3 (nI 1) 0 (by decide)
    have := h3 v (fun z => by rw [hv, z]; rfl)
    unfold MX4_nearest MX5_nearest
    simp (disch := omega) only [nm, jn0, jn1, jn2, jn3, jn4, jn5, bnd1_s, bnd2_s, bnd3_s, bnd4_s, lit_n, neg1, chkI_n, chkZ_n, chkC_n, bI_B, chkB_0, chkB_1, bI_t, bI_f, clamp_n, nI_add, subn, remn2, nat_rem, divn, pk_mul, ifle_t, ifle_f, iflt_t, iflt_f, ifeq_t, ifeq_f, ifm_f, ifm_t, if_true, if_false, h2, hv, this, if_neg h1]
    exact ⟨_, _, _, _, _, rfl, rfl, fFs.refl⟩
  · obtain ⟨gA', zZ', lZ', k1⟩ := c_nearest hB gA zZ lZ ha hb hw e1
    obtain ⟨m', k2, k3⟩ := r_nearest hB ha hb hw e2 e4
    exact ⟨_, gA', zZ', lZ', m', k1, k2, k3⟩
