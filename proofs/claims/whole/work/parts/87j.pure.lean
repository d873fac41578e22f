/-! green -/
def keyR (i j : Nat) : Prop := (1 ≤ i ∧ i ≤ 5) ∨ (i = 0 ∧ (j = 0 ∨ j = 2 ∨ j = 5 ∨ j = 7 ∨ j = 9 ∨ j = 10))
theorem RM.fT {g g' : GS} {T : NN} (h : RM g T) (f : ∀ i j, keyR i j → g' i j = g i j) : RM g' T := by
  obtain ⟨⟨h0, h1, h2, h3, h4, h5⟩, r1, r2, r3, r4, r5, r6, r7⟩ := h
  have e0 : ∀ j, (j = 0 ∨ j = 2 ∨ j = 5 ∨ j = 7 ∨ j = 9 ∨ j = 10) → g' 0 j = g 0 j := fun j h => f 0 j (Or.inr ⟨rfl, h⟩)
  have e : ∀ i j, 1 ≤ i → i ≤ 5 → g' i j = g i j := fun i j a b => f i j (Or.inl ⟨a, b⟩)
  exact ⟨⟨by rw [e0 _ (by decide)]; exact h0, by rw [e0 _ (by decide)]; exact h1, by rw [e0 _ (by decide)]; exact h2, by rw [e0 _ (by decide)]; exact h3, by rw [e0 _ (by decide)]; exact h4, by rw [e0 _ (by decide)]; exact h5⟩, fun q hq => by rw [e _ _ (by decide) (by decide)]; exact r1 q hq, fun q hq => by rw [e _ _ (by decide) (by decide)]; exact r2 q hq, fun q hq => by rw [e _ _ (by decide) (by decide)]; exact r3 q hq, fun q hq => by rw [e _ _ (by decide) (by decide)]; exact r4 q hq, fun q hq => by rw [e _ _ (by decide) (by decide)]; exact r5 q hq, fun q hq => by rw [e _ _ (by decide) (by decide)]; exact r6 q hq, fun q hq => by rw [e _ _ (by decide) (by decide)]; exact r7 q hq⟩
theorem recR.f {m m' : GS} (h : ∀ j, m' 7 j = m 7 j) : ∀ (ls : List (Nat × Nat × Nat)) (T : NN) (k : Nat), recR m T k ls → recR m' T k ls := by
  intro ls
  induction ls with
  | nil => intro T k _; trivial
  | cons a ls ih =>
    obtain ⟨c, a1, a2⟩ := a
    intro T k ⟨h1, ⟨z1, z2, z3⟩, h3⟩
    exact ⟨h1, ⟨by rw [h]; exact z1, fun y => by rw [h]; exact z2 y, fun y => by rw [h]; exact z3 y⟩, ih _ _ h3⟩
theorem r_lines {K : GS → Option (Int32 × GS × Int64)} : ∀ (ls : List (Nat × Nat × Nat)) (k n : Nat) (g : GS) (T : NN), RM g T → BT T → recR g T k ls → k + ls.length ≤ 12 → g 0 19 = nI (k + ls.length) → ls.length < n → ∃ g', lq2 (BX5_green_12 K) n (nI k) g = K g' ∧ RM g' (apL T ls) ∧ fDo g g' := by
  intro ls
  induction ls with
  | nil =>
    intro k n g T hM hB hr hl h19 hn
    obtain ⟨q, rfl⟩ : ∃ q, n = q + 1 := ⟨n - 1, by simp at hn; omega⟩
    refine ⟨g, ?_, hM, fDo.refl⟩
    show BX5_green_12 K (lq2 (BX5_green_12 K) q) (nI k) g = K g
    unfold BX5_green_12
    rw [h19]
    exact if_pos ((nI_leI (by omega) (by omega)).2 (by simp))
  | cons a ls ih =>
    obtain ⟨c, a1, a2⟩ := a
    intro k n g T hM hB hr hl h19 hn
    obtain ⟨q, rfl⟩ : ∃ q, n = q + 1 := ⟨n - 1, by omega⟩
    simp only [List.length_cons] at hl hn h19
    obtain ⟨h1, h2, h3⟩ := hr
    obtain ⟨m', d1, d2, d3⟩ := r_doLine (w := 3 * k) hM hB (by omega) h1 h2
    have e7 : ∀ j, m' 7 j = g 7 j := fun j => d3 7 j (by simp) (by simp)
    obtain ⟨g', v1, v2, v3⟩ := ih (k + 1) q m' (doA T c a1 a2) d2 (hB.d h1) (recR.f e7 _ _ _ h3) (by omega) (by rw [d3 0 19 (by decide) (by decide), h19]; congr 1; omega) (by omega)
    refine ⟨g', ?_, v2, d3.trans v3⟩
    show BX5_green_12 K (lq2 (BX5_green_12 K) q) (nI k) g = K g'
    unfold BX5_green_12
    rw [h19, if_neg (fun z => absurd ((nI_leI (by omega) (by omega)).1 z) (by omega)), show (3 : Int32) * nI k = nI (3 * k) from pk_mul 3 k, d1, bnd1_s, show nI k + (1 : Int32) = nI (k + 1) from nI_add k 1, nm_c]
    exact v1
theorem p_unkept {α : Type} {k15 : GS → Option α} {B : (GS → Option α) → (Int32 → GS → Option α) → Int32 → GS → Option α} (hB : ∀ K R x g, B K R x g = if (2 : Int32) ≤ x then (K g) else (chkI x 2 (nm (upA g 2 (upd (g 2) x.toNatClampNeg (vp_nar .boolean (0 : Int32)))) fun (g1 : GS) => nm (x + 1) fun (x2 : Int32) => R x2 g1))) (nS : GS) : ∃ g', lq2 (B k15) FU (0 : Int32) nS = k15 g' ∧ g' 2 0 = nI 0 ∧ g' 2 1 = nI 0 ∧ ∀ i j, i ≠ 2 → g' i j = nS i j := by
  refine lq2_rel (fun i x (g : GS) => x = nI i ∧ (∀ q, q < i → g 2 q = nI 0) ∧ (∀ a j, a ≠ 2 → g a j = nS a j)) 2 (fun r => ∃ g', r = k15 g' ∧ g' 2 0 = nI 0 ∧ g' 2 1 = nI 0 ∧ ∀ i j, i ≠ 2 → g' i j = nS i j) ?_ _ _ ⟨rfl, fun q h => absurd h (Nat.not_lt_zero _), fun _ _ _ => rfl⟩ (FU_lt (by omega))
  rintro i x g hi ⟨rfl, h1, h2⟩
  by_cases c : i < 2
  · refine Or.inl ⟨c, nI (i + 1), upA g 2 (upd (g 2) i (nI 0)), ⟨rfl, fun q hq => ?_, fun a j k => by rw [upA_r k]; exact h2 a j k⟩, fun rec => ?_⟩
    · rw [upA_s]
      by_cases z : q = i
      · subst z; rw [pk_us]
      · rw [pk_un z]; exact h1 q (by omega)
    · rw [hB]
      simp (disch := omega) only [nm, jn0, jn1, jn2, jn3, jn4, jn5, bnd1_s, bnd2_s, bnd3_s, bnd4_s, lit_n, neg1, chkI_n, chkZ_n, chkC_n, bI_B, chkB_0, chkB_1, bI_t, bI_f, clamp_n, nI_add, subn, remn2, nat_rem, divn, pk_mul, ifle_t, ifle_f, iflt_t, iflt_f, ifeq_t, ifeq_f, ifm_f, ifm_t, if_true, if_false, nar0]
  · have : i = 2 := by omega
    subst this
    refine Or.inr ⟨_, ⟨g, rfl, h1 0 (by decide), h1 1 (by decide), h2⟩, fun rec => ?_⟩
    rw [hB, if_pos (show (2 : Int32) ≤ nI 2 by decide)]
set_option maxHeartbeats 4000000 in
theorem f_green {nS tT tD xT gN gK gL mM : GS} {T S Q K0 K1 : NN} {L : Nat} {Bt : Nat → Nat} (hB : BV tT gN mM T S) (hV : SV nS mM T Q) (hK : KV nS mM gK T 0 K0) (hL : KV nS mM gL T 1 K1) (hX : TV xT mM L Bt) (tk : Int64) : ∃ r nS' tT' tD' xT' gN' m' tk' T' S' Q' K0' K1' L' Bt', MX4_green nS tT tD xT gN = some (r, nS', tT', tD', xT', gN') ∧ MX5_green mM tk = some (r, m', tk') ∧ BV tT' gN' m' T' S' ∧ SV nS' m' T' Q' ∧ KV nS' m' gK T' 0 K0' ∧ KV nS' m' gL T' 1 K1' ∧ TV xT' m' L' Bt' := by
  have hB' := hB
  obtain ⟨hT, hI, hR, hS, hNb, hM, hN⟩ := hB'
  obtain ⟨t1, c1, c2⟩ := p_copyT (tT := tD) hT
  have hL200 := hX.2.2.1
  unfold MX4_green MX5_green
  rcases l_all tk c2 hM hI hX with ⟨xT', tT', m', tk', f, e, ln, a1, a2, a3, a4, a5, a6⟩ | ⟨xT', tT', m', tk', e, ls, a1, a2, a3, a4, a5, a6, a7, a8, a9⟩
  · have nm1 : ¬ nI f = -1 := fun z => (nI_m1 (by omega)).mp z
    rw [c1, bnd1_s, a1, bnd3_s, a3, bnd3_s, if_neg nm1, if_pos (show nI 0 = 0 from rfl)]
    have F := a6.f
    exact ⟨_, _, _, _, _, _, _, _, T, S, Q, K0, K1, L, Bt, rfl, rfl, hB.fF F, hV.fC F.1, hK.fC F.1, hL.fC F.1, XT_TV a4 hX F.1⟩
  · obtain ⟨t2, b1, b2⟩ := p_copyT (tT := tT) a5
    obtain ⟨gN', d1, d2⟩ := p_startS (gS := gN) b2 a6
    obtain ⟨nS', e1, e2, e3, e4⟩ := p_unkept (k15 := fun (nS_14 : GS) => some ((up2 xT' 0 1 (nI 0)) 0 2, nS_14, t2, tT', up2 xT' 0 1 (nI 0), gN')) (B := BX4_green_62) (fun _ _ _ _ => rfl) (up2 nS 0 13 (nI 0))
    obtain ⟨g1, r1, r2, r3⟩ := r_lines (K := (fun (mM_6 : GS) => nm (up2 mM_6 0 11 (0 : Int32)) fun (mM_8 : GS) => bnd1 (MX5_begin mM_8) fun (mM_9 : GS) => nm (up2 mM_9 0 30 (0 : Int32)) fun (mM_11 : GS) => chkI (0 : Int32) 2 (nm (upA mM_11 11 (upd (mM_11 11) (0 : Int32).toNatClampNeg (vp_nar .boolean (0 : Int32)))) fun (mM_13 : GS) => chkI (1 : Int32) 2 (nm (upA mM_13 11 (upd (mM_13 11) (1 : Int32).toNatClampNeg (vp_nar .boolean (0 : Int32)))) fun (mM_15 : GS) => some ((mM_15 0 19), mM_15, tk'))))) ls 0 FU m' T (hM.fC a9.f.1) hI.b a8 a4 a7 (FU_lt (by omega))
    rw [show nI 0 = (0 : Int32) from rfl] at r1
    have M1 : RM (up2 g1 0 11 (nI 0)) (apL T ls) := r2.fT (fun i j c => by
      unfold keyR at c
      by_cases z : i = 0
      · subst z; rw [up2_n (by omega)]
      · rw [up2_r z])
    obtain ⟨g2, v1, v2, v3⟩ := r_begin M1 a6
    have h19 : g2 0 19 = nI ls.length := by
      rw [v2 0 19 (by decide), up2_n (by decide), r3 0 19 (by decide) (by decide), a7, Nat.zero_add]
    obtain ⟨g3, hg3⟩ : ∃ g3, g3 = upA (upA (up2 g2 0 30 (nI 0)) 11 (upd ((up2 g2 0 30 (nI 0)) 11) 0 (nI 0))) 11 (upd ((upA (up2 g2 0 30 (nI 0)) 11 (upd ((up2 g2 0 30 (nI 0)) 11) 0 (nI 0))) 11) 1 (nI 0)) := ⟨_, rfl⟩
    have fr : ∀ i j, i ≠ 11 → (i = 0 → j ≠ 30) → g3 i j = g2 i j := fun i j a b => by
      rw [hg3, upA_r a, upA_r a]
      by_cases z : i = 0
      · subst z; rw [up2_n (b rfl)]
      · rw [up2_r z]
    have k0 : g3 11 0 = nI 0 := by rw [hg3]; simp (disch := omega) only [up2_s, up2_r, up2_n, upA_s, upA_r, pk_us, pk_un, cpy_n]
    have k1 : g3 11 1 = nI 0 := by rw [hg3]; simp (disch := omega) only [up2_s, up2_r, up2_n, upA_s, upA_r, pk_us, pk_un, cpy_n]
    have k30 : g3 0 30 = nI 0 := by rw [hg3]; simp (disch := omega) only [up2_s, up2_r, up2_n, upA_s, upA_r, pk_us, pk_un, cpy_n]
    have cls : MX4_green nS tT tD xT gN = some (nI ls.length, nS', t2, tT', up2 xT' 0 1 (nI 0), gN') := by
      unfold MX4_green
      rw [c1, bnd1_s, a1, bnd3_s, if_pos (show mI = -1 from rfl), b1, bnd1_s, nm_c]
      simp only [lit_n] at d1 ⊢
      rw [d1, bnd1_s, nm_c]
      simp only [jn1]
      simp only [lit_n] at e1 ⊢
      rw [e1]
      rw [up2_n (by decide), a3.2.1, Nat.zero_add]
    have ref : MX5_green mM tk = some (nI ls.length, g3, tk') := by
      unfold MX5_green
      rw [a2, bnd3_s, if_neg (show ¬ nI 1 = 0 by decide)]
      simp only [jn1]
      rw [r1, nm_c]
      simp only [lit_n] at v1 ⊢
      rw [v1, bnd1_s, nm_c, chkI_n (by decide) (by decide), nar0, nm_c, chkI_n (by decide) (by decide), nm_c]
      have := fr 0 19 (by decide) (by decide)
      rw [hg3] at this ⊢
      rw [← h19, ← this]
      rfl
    unfold MX4_green at cls
    unfold MX5_green at ref
    refine ⟨_, _, _, _, _, _, _, _, apL T ls, Sx (apL T ls), fun _ _ => 0, fun _ _ => 0, fun _ _ => 0, 0, Bt, cls, ref, ?_, ?_, ?_, ?_, ?_⟩
    · refine ⟨b2, a6, d2, IS_Sx a6, by simp [Sx], M1.fT (fun i j c => ?_), v3.row a6 (fun j _ => fr 8 j (by decide) (by simp))⟩
      unfold keyR at c
      rw [fr i j (by omega) (by omega), v2 i j (by omega)]
    · exact ⟨by rw [e4 0 13 (by decide), up2_s], k30, Nat.zero_le _, fun i hi => absurd hi (Nat.not_lt_zero _)⟩
    · exact ⟨false, e2, k0, fun z => by cases z⟩
    · exact ⟨false, e3, k1, fun z => by cases z⟩
    · refine ⟨up2_s, ?_, Nat.zero_le _, fun i hi => absurd hi (Nat.not_lt_zero _)⟩
      rw [fr 0 11 (by decide) (by decide), v2 0 11 (by decide), up2_s]
