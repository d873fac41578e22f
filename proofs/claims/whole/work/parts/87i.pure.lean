/-! fault, green -/
theorem r_counts {mM : GS} {T : NN} {L : Nat} {Bt : Nat → Nat} {xT : GS} (tk : Int64) (hM : RM mM T) (hI : IT T) (hX : TV xT mM L Bt) : ∃ g, MX5_isRead mM tk = lq3 (BX5_isRead_112 K16 K30) FU (nI 1) g tk ∧ MT g L Bt 0 ∧ CN g T ∧ g 0 19 = nI 0 ∧ fRd 0 mM g := by
  have i2 := hI.1.2.2.1
  have i1 := hI.1.2.1
  have i0 := hI.1.1
  obtain ⟨v1, v2, v3, v4⟩ := hX
  obtain ⟨⟨h0, h1, h2, h3, h4, h5⟩, r1, r2, r3, r4, r5, r6, r7⟩ := hM
  obtain ⟨m11, hm⟩ : ∃ m11, m11 = up2 (up2 (up2 (up2 (up2 (up2 (up2 mM 0 13 (nI 0)) 0 19 (nI 0)) 0 20 (nI (T 0 0))) 0 21 (nI (T 0 1))) 0 23 (nI (T 0 2))) 0 24 (nI (T 0 3))) 0 22 (nI 0) := ⟨_, rfl⟩
  have k0 : MX5_isRead mM tk = lq2 (BX5_isRead_49 (fun mM_12 => lq3 (BX5_isRead_112 K16 K30) FU (nI 1) mM_12 tk)) FU (nI 0) m11 := by
    have e : MX5_isRead mM tk = lq2 (BX5_isRead_49 (fun mM_12 => lq3 (BX5_isRead_112 K16 K30) FU (nI 1) mM_12 tk)) FU (nI 0) (up2 (up2 (up2 (up2 (up2 (up2 (up2 mM 0 13 0) 0 19 0) 0 20 ((up2 (up2 mM 0 13 0) 0 19 0) 0 0)) 0 21 ((up2 (up2 (up2 mM 0 13 0) 0 19 0) 0 20 ((up2 (up2 mM 0 13 0) 0 19 0) 0 0)) 0 2)) 0 23 ((up2 (up2 (up2 (up2 mM 0 13 0) 0 19 0) 0 20 ((up2 (up2 mM 0 13 0) 0 19 0) 0 0)) 0 21 ((up2 (up2 (up2 mM 0 13 0) 0 19 0) 0 20 ((up2 (up2 mM 0 13 0) 0 19 0) 0 0)) 0 2)) 0 5)) 0 24 ((up2 (up2 (up2 (up2 (up2 mM 0 13 0) 0 19 0) 0 20 ((up2 (up2 mM 0 13 0) 0 19 0) 0 0)) 0 21 ((up2 (up2 (up2 mM 0 13 0) 0 19 0) 0 20 ((up2 (up2 mM 0 13 0) 0 19 0) 0 0)) 0 2)) 0 23 ((up2 (up2 (up2 (up2 mM 0 13 0) 0 19 0) 0 20 ((up2 (up2 mM 0 13 0) 0 19 0) 0 0)) 0 21 ((up2 (up2 (up2 mM 0 13 0) 0 19 0) 0 20 ((up2 (up2 mM 0 13 0) 0 19 0) 0 0)) 0 2)) 0 5)) 0 7)) 0 22 0) := rfl
    rw [e, hm]
    simp (disch := omega) only [lit_n, up2_s, up2_r, up2_n, upA_s, upA_r, pk_us, pk_un, cpy_n, h0, h1, h2, h3]
  have a : ∀ i j, (i = 0 → j ≠ 13 ∧ j ≠ 19 ∧ j ≠ 20 ∧ j ≠ 21 ∧ j ≠ 22 ∧ j ≠ 23 ∧ j ≠ 24) → m11 i j = mM i j := by
    intro i j h
    rw [hm]
    by_cases c : i = 0
    · subst c
      have := h rfl
      rw [up2_n (by omega), up2_n (by omega), up2_n (by omega), up2_n (by omega), up2_n (by omega), up2_n (by omega), up2_n (by omega)]
    · rw [up2_r c, up2_r c, up2_r c, up2_r c, up2_r c, up2_r c, up2_r c]
  have b13 : m11 0 13 = nI 0 := by rw [hm]; simp (disch := omega) only [up2_s, up2_r, up2_n, upA_s, upA_r, pk_us, pk_un, cpy_n]
  have b19 : m11 0 19 = nI 0 := by rw [hm]; simp (disch := omega) only [up2_s, up2_r, up2_n, upA_s, upA_r, pk_us, pk_un, cpy_n]
  have b20 : m11 0 20 = nI (T 0 0) := by rw [hm]; simp (disch := omega) only [up2_s, up2_r, up2_n, upA_s, upA_r, pk_us, pk_un, cpy_n]
  have b21 : m11 0 21 = nI (T 0 1) := by rw [hm]; simp (disch := omega) only [up2_s, up2_r, up2_n, upA_s, upA_r, pk_us, pk_un, cpy_n]
  have b22 : m11 0 22 = nI 0 := by rw [hm]; simp (disch := omega) only [up2_s, up2_r, up2_n, upA_s, upA_r, pk_us, pk_un, cpy_n]
  have b23 : m11 0 23 = nI (T 0 2) := by rw [hm]; simp (disch := omega) only [up2_s, up2_r, up2_n, upA_s, upA_r, pk_us, pk_un, cpy_n]
  have b24 : m11 0 24 = nI (T 0 3) := by rw [hm]; simp (disch := omega) only [up2_s, up2_r, up2_n, upA_s, upA_r, pk_us, pk_un, cpy_n]
  rw [k0]
  refine lq2_rel (fun i x (g : GS) => x = nI i ∧ (∀ p j, (p = 0 → j ≠ 22) → g p j = m11 p j) ∧ g 0 22 = nI (ocN T (T 3) i)) (T 0 1) (fun r => ∃ g, r = lq3 (BX5_isRead_112 K16 K30) FU (nI 1) g tk ∧ MT g L Bt 0 ∧ CN g T ∧ g 0 19 = nI 0 ∧ fRd 0 mM g) ?_ _ _ ⟨rfl, fun _ _ _ => rfl, b22⟩ (FU_lt (by omega))
  rintro i x g hi ⟨rfl, gf, g22⟩
  have g2 : g 0 2 = nI (T 0 1) := by rw [gf 0 2 (by decide), a 0 2 (by decide)]; exact h1
  by_cases c : i < T 0 1
  · have hp : g 3 i = nI (T 3 i) := by rw [gf 3 i (by simp), a 3 i (by simp)]; exact r3 i (by omega)
    have hk : g 2 i = nI (T 2 i) := by rw [gf 2 i (by simp), a 2 i (by simp)]; exact r2 i (by omega)
    have hkk := hI.2.2.1 i (by omega)
    have hpl := hI.2.2.2.1 i c
    have g0 : g 0 0 = nI (T 0 0) := by rw [gf 0 0 (by decide), a 0 0 (by decide)]; exact h0
    have nmod : (T 3 i + 1) % T 0 0 = nx (T 0 0) (T 3 i) := nx_mod hpl
    have nl : nx (T 0 0) (T 3 i) < T 0 0 := nx_lt (by omega)
    refine Or.inl ⟨c, nI (i + 1), up2 g 0 22 (nI (ocN T (T 3) (i + 1))), ⟨rfl, fun p j h => ?_, up2_s⟩, fun rec => ?_⟩
    · by_cases z : p = 0
      · subst z; rw [up2_n (h rfl)]; exact gf 0 j h
      · rw [up2_r z]; exact gf p j h
    · unfold BX5_isRead_49
      show _ = rec (nI (i + 1)) (up2 g 0 22 (nI (ocN T (T 3) i ||| gr (T 0 0) (T 2 i) (T 3 i))))
      unfold gr
      by_cases k3 : T 2 i = 3
      · simp (disch := omega) only [nm, jn0, jn1, jn2, jn3, jn4, jn5, bnd1_s, bnd2_s, bnd3_s, bnd4_s, lit_n, neg1, chkI_n, chkZ_n, chkC_n, bI_B, chkB_0, chkB_1, bI_t, bI_f, clamp_n, nI_add, subn, remn2, nat_rem, divn, pk_mul, ifle_t, ifle_f, iflt_t, iflt_f, ifeq_t, ifeq_f, ifm_f, ifm_t, if_true, if_false, g2, hp, hk, g0, g22, nmod, shl_1, if_pos k3]
        simp only [fa_or, Nat.or_assoc]
      · simp (disch := omega) only [nm, jn0, jn1, jn2, jn3, jn4, jn5, bnd1_s, bnd2_s, bnd3_s, bnd4_s, lit_n, neg1, chkI_n, chkZ_n, chkC_n, bI_B, chkB_0, chkB_1, bI_t, bI_f, clamp_n, nI_add, subn, remn2, nat_rem, divn, pk_mul, ifle_t, ifle_f, iflt_t, iflt_f, ifeq_t, ifeq_f, ifm_f, ifm_t, if_true, if_false, g2, hp, hk, g22, shl_1, if_neg k3]
        simp only [fa_or, Nat.or_zero]
  · have : i = T 0 1 := by omega
    subst this
    refine Or.inr ⟨_, ⟨g, rfl, ⟨?_, ?_, v3, fun i hi => ?_⟩, ⟨?_, ?_, g22, ?_, ?_⟩, ?_, fun i j p q => ?_⟩, fun rec => ?_⟩
    · rw [gf 0 11 (by decide), a 0 11 (by decide)]; exact v2
    · rw [gf 0 13 (by decide)]; exact b13
    · rw [gf 6 i (by simp), a 6 i (by simp)]; exact (v4 i hi).2
    · rw [gf 0 20 (by decide)]; exact b20
    · rw [gf 0 21 (by decide)]; exact b21
    · rw [gf 0 23 (by decide)]; exact b23
    · rw [gf 0 24 (by decide)]; exact b24
    · rw [gf 0 19 (by decide)]; exact b19
    · rw [gf i j (fun z => by have := p z; omega), a i j (fun z => by have := p z; omega)]
    · unfold BX5_isRead_49
      simp (disch := omega) only [nm, jn0, jn1, jn2, jn3, jn4, jn5, bnd1_s, bnd2_s, bnd3_s, bnd4_s, lit_n, neg1, chkI_n, chkZ_n, chkC_n, bI_B, chkB_0, chkB_1, bI_t, bI_f, clamp_n, nI_add, subn, remn2, nat_rem, divn, pk_mul, ifle_t, ifle_f, iflt_t, iflt_f, ifeq_t, ifeq_f, ifm_f, ifm_t, if_true, if_false, g2]
theorem l_all {xT tT mM : GS} {T : NN} {L : Nat} {Bt : Nat → Nat} (tk : Int64) (hT : RT tT T) (hM : RM mM T) (hI : IT T) (hX : TV xT mM L Bt) : RES L Bt 0 T (MX2_readInto xT tT) (MX5_isRead mM tk) mM := by
  obtain ⟨g, h1, h2, h3, h4, h5⟩ := r_counts tk hM hI hX
  have k0 : MX2_readInto xT tT = lq2 (BX2_readInto_10 K5 K5 K5 K11) FU (up2 (up2 xT 0 4 (nI 0)) 0 2 (nI 1)) tT := rfl
  have X0 : XT (up2 (up2 xT 0 4 (nI 0)) 0 2 (nI 1)) L Bt 0 (0 + 1) := by
    obtain ⟨v1, v2, v3, v4⟩ := hX
    refine ⟨?_, ?_, ?_, v3, fun i hi => ?_⟩
    · rw [up2_n (by decide), up2_n (by decide)]; exact v1
    · rw [up2_s]
    · rw [up2_n (by decide), up2_s]
    · rw [up2_r (by decide), up2_r (by decide)]; exact ⟨(v4 i hi).1, (v4 i hi).2.2⟩
  have hfu : 13 ≤ FU := Nat.le_of_lt (FU_lt (by decide))
  have := l_read 11 0 FU FU (by decide) hfu hfu (up2 (up2 xT 0 4 (nI 0)) 0 2 (nI 1)) tT g tk T 0 X0 (Nat.zero_le _) hT hI h2 h3 h4
  rw [k0, h1]
  rcases this with ⟨xT', tT', m', tk', f, e, ln, a1, a2, a3, a4, a5, a6⟩ | ⟨xT', tT', m', tk', e, ls, a1, a2, a3, a4, a5, a6, a7, a8, a9⟩
  · exact Or.inl ⟨xT', tT', m', tk', f, e, ln, a1, a2, a3, a4, a5, h5.trans a6⟩
  · exact Or.inr ⟨xT', tT', m', tk', e, ls, a1, a2, a3, a4, a5, a6, a7, a8, h5.trans a9⟩
theorem fRd.f {g g' : GS} (h : fRd 0 g g') : fFs g g' := ⟨fun i j c => by
  unfold core at c
  exact h i j (by omega) (by omega), fun j _ => h 8 j (by simp) (by simp)⟩
theorem XT_TV {xT mM xT' m' : GS} {L e ln : Nat} {Bt : Nat → Nat} (h : XT xT' L Bt e ln) (hV : TV xT mM L Bt) (f : fCs mM m') : TV xT' m' L Bt := by
  have := hV.fC f
  exact ⟨h.1, this.2.1, this.2.2.1, fun i hi => ⟨(h.2.2.2.2 i hi).1, (this.2.2.2 i hi).2⟩⟩
theorem f_fault {tT tD xT gN mM : GS} {T S : NN} {L : Nat} {Bt : Nat → Nat} (hB : BV tT gN mM T S) (hX : TV xT mM L Bt) (tk : Int64) : ∃ r tD' xT' m' tk', MX4_fault tT tD xT = some (r, tD', xT') ∧ MX5_fault mM tk = some (r, m', tk') ∧ fFs mM m' ∧ TV xT' m' L Bt := by
  obtain ⟨hT, hI, hR, hS, hNb, hM, hN⟩ := hB
  obtain ⟨t1, c1, c2⟩ := p_copyT (tT := tD) hT
  have hL := hX.2.2.1
  unfold MX4_fault MX5_fault
  rcases l_all tk c2 hM hI hX with ⟨xT', tT', m', tk', f, e, ln, a1, a2, a3, a4, a5, a6⟩ | ⟨xT', tT', m', tk', e, ls, a1, a2, a3, a4, a5, a6, a7, a8, a9⟩
  · simp (disch := omega) only [nm, jn0, jn1, jn2, jn3, jn4, jn5, bnd1_s, bnd2_s, bnd3_s, bnd4_s, lit_n, neg1, chkI_n, chkZ_n, chkC_n, bI_B, chkB_0, chkB_1, bI_t, bI_f, clamp_n, nI_add, subn, remn2, nat_rem, divn, pk_mul, ifle_t, ifle_f, iflt_t, iflt_f, ifeq_t, ifeq_f, ifm_f, ifm_t, if_true, if_false, c1, a1, a3, a5]
    exact ⟨_, _, _, _, _, rfl, rfl, a6.f, XT_TV a4 hX a6.f.1⟩
  · simp (disch := omega) only [nm, jn0, jn1, jn2, jn3, jn4, jn5, bnd1_s, bnd2_s, bnd3_s, bnd4_s, lit_n, neg1, chkI_n, chkZ_n, chkC_n, bI_B, chkB_0, chkB_1, bI_t, bI_f, clamp_n, nI_add, subn, remn2, nat_rem, divn, pk_mul, ifle_t, ifle_f, iflt_t, iflt_f, ifeq_t, ifeq_f, ifm_f, ifm_t, if_true, if_false, c1, a1, a2]
    exact ⟨_, _, _, _, _, rfl, rfl, a9.f, XT_TV a3 hX a9.f.1⟩
theorem r_plain {mM : GS} : ∃ m', MX5_plain mM = some m' ∧ (∀ q, q < 12 → m' 1 q = nI 1) ∧ m' 0 2 = nI 0 ∧ m' 0 5 = nI 0 ∧ m' 0 7 = nI 0 ∧ m' 0 9 = nI 0 ∧ m' 0 10 = nI 1 ∧ (∀ i j, i ≠ 1 → (i = 0 → j ≠ 2 ∧ j ≠ 5 ∧ j ≠ 7 ∧ j ≠ 9 ∧ j ≠ 10) → m' i j = mM i j) := by
  unfold MX5_plain jn1
  refine lq2_rel (fun i x (g : GS) => x = nI i ∧ (∀ q, q < i → g 1 q = nI 1) ∧ (∀ a j, a ≠ 1 → g a j = mM a j)) 12 (fun r => ∃ m' : GS, r = some m' ∧ (∀ q, q < 12 → m' 1 q = nI 1) ∧ m' 0 2 = nI 0 ∧ m' 0 5 = nI 0 ∧ m' 0 7 = nI 0 ∧ m' 0 9 = nI 0 ∧ m' 0 10 = nI 1 ∧ (∀ i j, i ≠ 1 → (i = 0 → j ≠ 2 ∧ j ≠ 5 ∧ j ≠ 7 ∧ j ≠ 9 ∧ j ≠ 10) → m' i j = mM i j)) ?_ _ _ ⟨rfl, fun q h => absurd h (Nat.not_lt_zero _), fun _ _ _ => rfl⟩ (FU_lt (by omega))
  rintro i x g hi ⟨rfl, h1, h2⟩
  by_cases c : i < 12
  · refine Or.inl ⟨c, nI (i + 1), upA g 1 (upd (g 1) i (nI 1)), ⟨rfl, fun q hq => ?_, fun a j k => by rw [upA_r k]; exact h2 a j k⟩, fun rec => ?_⟩
    · rw [upA_s]
      by_cases z : q = i
      · subst z; rw [pk_us]
      · rw [pk_un z]; exact h1 q (by omega)
    · unfold BX5_plain_2
      simp (disch := omega) only [nm, jn0, jn1, jn2, jn3, jn4, jn5, bnd1_s, bnd2_s, bnd3_s, bnd4_s, lit_n, neg1, chkI_n, chkZ_n, chkC_n, bI_B, chkB_0, chkB_1, bI_t, bI_f, clamp_n, nI_add, subn, remn2, nat_rem, divn, pk_mul, ifle_t, ifle_f, iflt_t, iflt_f, ifeq_t, ifeq_f, ifm_f, ifm_t, if_true, if_false]
  · have : i = 12 := by omega
    subst this
    refine Or.inr ⟨some (up2 (up2 (up2 (up2 (up2 g 0 2 (nI 0)) 0 5 (nI 0)) 0 7 (nI 0)) 0 9 (nI 0)) 0 10 (nI 1)), ⟨_, rfl, fun q hq => ?_, ?_, ?_, ?_, ?_, ?_, fun a j k l => ?_⟩, fun rec => ?_⟩
    · simp (disch := omega) only [up2_s, up2_r, up2_n, upA_s, upA_r, pk_us, pk_un, cpy_n]; exact h1 q hq
    · simp (disch := omega) only [up2_s, up2_r, up2_n, upA_s, upA_r, pk_us, pk_un, cpy_n]
    · simp (disch := omega) only [up2_s, up2_r, up2_n, upA_s, upA_r, pk_us, pk_un, cpy_n]
    · simp (disch := omega) only [up2_s, up2_r, up2_n, upA_s, upA_r, pk_us, pk_un, cpy_n]
    · simp (disch := omega) only [up2_s, up2_r, up2_n, upA_s, upA_r, pk_us, pk_un, cpy_n]
    · simp (disch := omega) only [up2_s, up2_r, up2_n, upA_s, upA_r, pk_us, pk_un, cpy_n]
    · by_cases z : a = 0
      · subst z
        have := l rfl
        rw [up2_n (by omega), up2_n (by omega), up2_n (by omega), up2_n (by omega), up2_n (by omega)]; exact h2 0 j k
      · rw [up2_r z, up2_r z, up2_r z, up2_r z, up2_r z]; exact h2 a j k
    · unfold BX5_plain_2
      simp (disch := omega) only [nm, jn0, jn1, jn2, jn3, jn4, jn5, bnd1_s, bnd2_s, bnd3_s, bnd4_s, lit_n, neg1, chkI_n, chkZ_n, chkC_n, bI_B, chkB_0, chkB_1, bI_t, bI_f, clamp_n, nI_add, subn, remn2, nat_rem, divn, pk_mul, ifle_t, ifle_f, iflt_t, iflt_f, ifeq_t, ifeq_f, ifm_f, ifm_t, if_true, if_false]
def fDo (g g' : GS) : Prop := ∀ i j, (i = 0 → 10 < j) → (i = 0 ∨ 5 < i) → g' i j = g i j
theorem fDo.refl {g : GS} : fDo g g := fun _ _ _ _ => rfl
theorem fDo.trans {g g' g'' : GS} (h : fDo g g') (h' : fDo g' g'') : fDo g g'' := fun i j a b => (h' i j a b).trans (h i j a b)
theorem fDo_up {g : GS} {j : Nat} {v : Int32} (h : j ≤ 10) : fDo g (up2 g 0 j v) := fun a b p _ => by
  by_cases c : a = 0
  · subst c
    have := p rfl
    rw [up2_n (by omega)]
  · rw [up2_r c]
theorem fDo_A {g : GS} {k : Nat} {f : Nat → Int32} (h : 1 ≤ k ∧ k ≤ 5) : fDo g (upA g k f) := fun a b _ q => by
  rw [upA_r (by omega)]
def BT (T : NN) : Prop := T 0 1 ≤ 8 ∧ T 0 2 ≤ 6 ∧ T 0 3 ≤ 6
theorem IT.b {T : NN} (h : IT T) : BT T := ⟨h.1.2.2.1, h.1.2.2.2.1, h.1.2.2.2.2.1⟩
theorem BT.d {T : NN} {c a1 a2 : Nat} (h : BT T) (o : okA T c a1) : BT (doA T c a1 a2) := by
  obtain ⟨b1, b2, b3⟩ := h
  obtain ⟨o1, o2, o3, o4, o5⟩ := o
  have hcc : c = 0 ∨ c = 1 ∨ c = 2 ∨ c = 3 ∨ c = 4 ∨ c = 5 ∨ c = 6 ∨ c = 7 ∨ c = 8 ∨ c = 9 ∨ c = 10 ∨ c = 11 ∨ c = 12 := by omega
  rcases hcc with rfl | rfl | rfl | rfl | rfl | rfl | rfl | rfl | rfl | rfl | rfl | rfl | rfl <;> simp [BT, doA, lay, stl, adP, adF, rmv, tU] <;> simp at o2 o3 o4 o5 <;> omega
set_option maxHeartbeats 8000000 in
theorem r_doLine {mM : GS} {T : NN} {w c a1 a2 : Nat} (hM : RM mM T) (hI : BT T) (hw : w + 2 < 36) (hok : okA T c a1) (hl : lineR mM w c a1 a2) : ∃ m', MX5_doLine mM (nI w) = some m' ∧ RM m' (doA T c a1 a2) ∧ fDo mM m' := by
  obtain ⟨l1, l2, l3⟩ := hl
  obtain ⟨o1, o2, o3, o4, o5⟩ := hok
  have hM' := hM
  obtain ⟨⟨h0, h1, h2, h3, h4, h5⟩, r1, r2, r3, r4, r5, r6, r7⟩ := hM'
  have i2 := hI.1
  have ip := hI.2.1
  have iff := hI.2.2
  have hcl : (nI w).toNatClampNeg = w := nI_clamp (by omega)
  have c1 : ∀ (k : Option GS), chkI (nI w + (1 : Int32)) 36 k = k := fun k => by rw [show nI w + (1 : Int32) = nI (w + 1) from nI_add w 1]; exact chkI_n (by omega) (by decide)
  have c2 : ∀ (k : Option GS), chkI (nI w + (2 : Int32)) 36 k = k := fun k => by rw [show nI w + (2 : Int32) = nI (w + 2) from nI_add w 2]; exact chkI_n (by omega) (by decide)
  have d1 : (nI w + (1 : Int32)).toNatClampNeg = w + 1 := by rw [show nI w + (1 : Int32) = nI (w + 1) from nI_add w 1]; exact nI_clamp (by omega)
  have d2 : (nI w + (2 : Int32)).toNatClampNeg = w + 2 := by rw [show nI w + (2 : Int32) = nI (w + 2) from nI_add w 2]; exact nI_clamp (by omega)
  have c0 : ∀ (k : Option GS), chkI (nI w) 36 k = k := fun k => chkI_n (by omega) (by decide)
  unfold MX5_doLine
  rw [c1, nm_c, c2, nm_c, c0]
  simp only [jn1]
  rw [hcl, d1, d2]
  have hcc : c = 0 ∨ c = 1 ∨ c = 2 ∨ c = 3 ∨ c = 4 ∨ c = 5 ∨ c = 6 ∨ c = 7 ∨ c = 8 ∨ c = 9 ∨ c = 10 ∨ c = 11 ∨ c = 12 := by omega
  rcases hcc with rfl | rfl | rfl | rfl | rfl | rfl | rfl | rfl | rfl | rfl | rfl | rfl | rfl
  · -- 0
    rw [l1, if_pos (show (nI 0) = (0 : Int32) by decide)]
    have e2 := l2 (Or.inl (by decide))
    obtain ⟨mp, p1, p2, p3, p4, p5, p6, p7, p8⟩ := r_plain (mM := mM)
    rw [p1, bnd1_s, nm_c, e2]
    refine ⟨_, rfl, ?_, fun i j a b => ?_⟩
    · show RM _ (lay T a1)
      refine ⟨⟨?_, ?_, ?_, ?_, ?_, ?_⟩, fun q hq => ?_, fun q hq => ?_, fun q hq => ?_, fun q hq => ?_, fun q hq => ?_, fun q hq => ?_, fun q hq => ?_⟩
      · rw [up2_s]; simp [lay]
      · rw [up2_n (by decide), p3]; simp [lay]
      · rw [up2_n (by decide), p4]; simp [lay]
      · rw [up2_n (by decide), p5]; simp [lay]
      · rw [up2_n (by decide), p6]; simp [lay]
      · rw [up2_n (by decide), p7]; simp [lay]
      · rw [up2_r (by decide), p2 q hq]; simp [lay]
      · rw [up2_r (by decide), p8 _ _ (by decide) (by simp), r2 q hq]; simp [lay]
      · rw [up2_r (by decide), p8 _ _ (by decide) (by simp), r3 q hq]; simp [lay]
      · rw [up2_r (by decide), p8 _ _ (by decide) (by simp), r4 q hq]; simp [lay]
      · rw [up2_r (by decide), p8 _ _ (by decide) (by simp), r5 q hq]; simp [lay]
      · rw [up2_r (by decide), p8 _ _ (by decide) (by simp), r6 q hq]; simp [lay]
      · rw [up2_r (by decide), p8 _ _ (by decide) (by simp), r7 q hq]; simp [lay]
    · by_cases z : i = 0
      · subst z
        have := a rfl
        rw [up2_n (by omega)]; exact p8 0 j (by decide) (fun _ => by omega)
      · rw [up2_r z]; exact p8 i j (by omega) (fun y => absurd y z)
  · -- 1
    rw [l1, if_neg (show ¬ (nI 1) = (0 : Int32) by decide), if_pos (show (nI 1) = (1 : Int32) by decide)]
    have e2 := l2 (Or.inl (by decide))
    have e3 := l3 (Or.inl rfl)
    have ha := o2 rfl
    rw [e2, e3, chkI_n ha (by decide), nm_c]
    have hca : (nI a1).toNatClampNeg = a1 := nI_clamp (by omega)
    rw [hca]
    refine ⟨_, rfl, ?_, fDo_A (by decide)⟩
    show RM _ (tU T 1 a1 a2)
    refine ⟨⟨?_, ?_, ?_, ?_, ?_, ?_⟩, fun q hq => ?_, fun q hq => ?_, fun q hq => ?_, fun q hq => ?_, fun q hq => ?_, fun q hq => ?_, fun q hq => ?_⟩
    · rw [upA_r (by decide), h0]; simp [tU]
    · rw [upA_r (by decide), h1]; simp [tU]
    · rw [upA_r (by decide), h2]; simp [tU]
    · rw [upA_r (by decide), h3]; simp [tU]
    · rw [upA_r (by decide), h4]; simp [tU]
    · rw [upA_r (by decide), h5]; simp [tU]
    · rw [upA_s, upd_n (r1 q hq)]; simp [tU]
    · rw [upA_r (by decide), r2 q hq]; simp [tU]
    · rw [upA_r (by decide), r3 q hq]; simp [tU]
    · rw [upA_r (by decide), r4 q hq]; simp [tU]
    · rw [upA_r (by decide), r5 q hq]; simp [tU]
    · rw [upA_r (by decide), r6 q hq]; simp [tU]
    · rw [upA_r (by decide), r7 q hq]; simp [tU]
  · -- 2
    rw [l1, if_neg (show ¬ (nI 2) = (0 : Int32) by decide), if_neg (show ¬ (nI 2) = (1 : Int32) by decide), if_pos (show (nI 2) = (2 : Int32) by decide)]
    have e2 := l2 (Or.inl (by decide))
    have ha := o3 (by decide)
    rw [c0, show (nI 2 - (2 : Int32) : Int32) = nI 0 from rfl, nm_c, h1, chkI_n ha (by decide), nm_c, e2]
    have hcn : (nI (T 0 1)).toNatClampNeg = T 0 1 := nI_clamp (by omega)
    have q1 : (upA mM 2 (upd (mM 2) (T 0 1) (nI 0))) 0 2 = nI (T 0 1) := by rw [upA_r (by decide)]; exact h1
    rw [hcn, q1, chkI_n ha (by decide), nm_c, hcn]
    have q2 : (upA (upA mM 2 (upd (mM 2) (T 0 1) (nI 0))) 3 (upd ((upA mM 2 (upd (mM 2) (T 0 1) (nI 0))) 3) (T 0 1) (nI a1))) 0 2 = nI (T 0 1) := by rw [upA_r (by decide)]; exact q1
    rw [q2, show nI (T 0 1) + (1 : Int32) = nI (T 0 1 + 1) from nI_add _ 1, nm_c, nm_c]
    refine ⟨_, rfl, ?_, ((fDo_A (by decide)).trans (fDo_A (by decide))).trans (fDo_up (by decide))⟩
    show RM _ (stl T 0 a1)
    refine ⟨⟨?_, ?_, ?_, ?_, ?_, ?_⟩, fun q hq => ?_, fun q hq => ?_, fun q hq => ?_, fun q hq => ?_, fun q hq => ?_, fun q hq => ?_, fun q hq => ?_⟩
    · simp (disch := omega) only [up2_s, up2_r, up2_n, upA_s, upA_r, pk_us, pk_un, cpy_n, h0]; simp [stl, tU]
    · simp (disch := omega) only [up2_s, up2_r, up2_n, upA_s, upA_r, pk_us, pk_un, cpy_n]; simp [stl, tU]
    · simp (disch := omega) only [up2_s, up2_r, up2_n, upA_s, upA_r, pk_us, pk_un, cpy_n, h2]; simp [stl, tU]
    · simp (disch := omega) only [up2_s, up2_r, up2_n, upA_s, upA_r, pk_us, pk_un, cpy_n, h3]; simp [stl, tU]
    · simp (disch := omega) only [up2_s, up2_r, up2_n, upA_s, upA_r, pk_us, pk_un, cpy_n, h4]; simp [stl, tU]
    · simp (disch := omega) only [up2_s, up2_r, up2_n, upA_s, upA_r, pk_us, pk_un, cpy_n, h5]; simp [stl, tU]
    · simp (disch := omega) only [up2_s, up2_r, up2_n, upA_s, upA_r, pk_us, pk_un, cpy_n, r1]; simp [stl, tU]
    · simp (disch := omega) only [up2_s, up2_r, up2_n, upA_s, upA_r, pk_us, pk_un, cpy_n]; rw [upd_n (r2 q hq)]; simp [stl, tU]
    · simp (disch := omega) only [up2_s, up2_r, up2_n, upA_s, upA_r, pk_us, pk_un, cpy_n]; rw [upd_n (r3 q hq)]; simp [stl, tU]
    · simp (disch := omega) only [up2_s, up2_r, up2_n, upA_s, upA_r, pk_us, pk_un, cpy_n, r4]; simp [stl, tU]
    · simp (disch := omega) only [up2_s, up2_r, up2_n, upA_s, upA_r, pk_us, pk_un, cpy_n, r5]; simp [stl, tU]
    · simp (disch := omega) only [up2_s, up2_r, up2_n, upA_s, upA_r, pk_us, pk_un, cpy_n, r6]; simp [stl, tU]
    · simp (disch := omega) only [up2_s, up2_r, up2_n, upA_s, upA_r, pk_us, pk_un, cpy_n, r7]; simp [stl, tU]
  · -- 3
    rw [l1, if_neg (show ¬ (nI 3) = (0 : Int32) by decide), if_neg (show ¬ (nI 3) = (1 : Int32) by decide), if_neg (show ¬ (nI 3) = (2 : Int32) by decide), if_pos (show (nI 3) = (3 : Int32) by decide)]
    have e2 := l2 (Or.inl (by decide))
    have ha := o3 (by decide)
    rw [c0, show (nI 3 - (2 : Int32) : Int32) = nI 1 from rfl, nm_c, h1, chkI_n ha (by decide), nm_c, e2]
    have hcn : (nI (T 0 1)).toNatClampNeg = T 0 1 := nI_clamp (by omega)
    have q1 : (upA mM 2 (upd (mM 2) (T 0 1) (nI 1))) 0 2 = nI (T 0 1) := by rw [upA_r (by decide)]; exact h1
    rw [hcn, q1, chkI_n ha (by decide), nm_c, hcn]
    have q2 : (upA (upA mM 2 (upd (mM 2) (T 0 1) (nI 1))) 3 (upd ((upA mM 2 (upd (mM 2) (T 0 1) (nI 1))) 3) (T 0 1) (nI a1))) 0 2 = nI (T 0 1) := by rw [upA_r (by decide)]; exact q1
    rw [q2, show nI (T 0 1) + (1 : Int32) = nI (T 0 1 + 1) from nI_add _ 1, nm_c, nm_c]
    refine ⟨_, rfl, ?_, ((fDo_A (by decide)).trans (fDo_A (by decide))).trans (fDo_up (by decide))⟩
    show RM _ (stl T 1 a1)
    refine ⟨⟨?_, ?_, ?_, ?_, ?_, ?_⟩, fun q hq => ?_, fun q hq => ?_, fun q hq => ?_, fun q hq => ?_, fun q hq => ?_, fun q hq => ?_, fun q hq => ?_⟩
    · simp (disch := omega) only [up2_s, up2_r, up2_n, upA_s, upA_r, pk_us, pk_un, cpy_n, h0]; simp [stl, tU]
    · simp (disch := omega) only [up2_s, up2_r, up2_n, upA_s, upA_r, pk_us, pk_un, cpy_n]; simp [stl, tU]
    · simp (disch := omega) only [up2_s, up2_r, up2_n, upA_s, upA_r, pk_us, pk_un, cpy_n, h2]; simp [stl, tU]
    · simp (disch := omega) only [up2_s, up2_r, up2_n, upA_s, upA_r, pk_us, pk_un, cpy_n, h3]; simp [stl, tU]
    · simp (disch := omega) only [up2_s, up2_r, up2_n, upA_s, upA_r, pk_us, pk_un, cpy_n, h4]; simp [stl, tU]
    · simp (disch := omega) only [up2_s, up2_r, up2_n, upA_s, upA_r, pk_us, pk_un, cpy_n, h5]; simp [stl, tU]
    · simp (disch := omega) only [up2_s, up2_r, up2_n, upA_s, upA_r, pk_us, pk_un, cpy_n, r1]; simp [stl, tU]
    · simp (disch := omega) only [up2_s, up2_r, up2_n, upA_s, upA_r, pk_us, pk_un, cpy_n]; rw [upd_n (r2 q hq)]; simp [stl, tU]
    · simp (disch := omega) only [up2_s, up2_r, up2_n, upA_s, upA_r, pk_us, pk_un, cpy_n]; rw [upd_n (r3 q hq)]; simp [stl, tU]
    · simp (disch := omega) only [up2_s, up2_r, up2_n, upA_s, upA_r, pk_us, pk_un, cpy_n, r4]; simp [stl, tU]
    · simp (disch := omega) only [up2_s, up2_r, up2_n, upA_s, upA_r, pk_us, pk_un, cpy_n, r5]; simp [stl, tU]
    · simp (disch := omega) only [up2_s, up2_r, up2_n, upA_s, upA_r, pk_us, pk_un, cpy_n, r6]; simp [stl, tU]
    · simp (disch := omega) only [up2_s, up2_r, up2_n, upA_s, upA_r, pk_us, pk_un, cpy_n, r7]; simp [stl, tU]
  · -- 4
    rw [l1, if_neg (show ¬ (nI 4) = (0 : Int32) by decide), if_neg (show ¬ (nI 4) = (1 : Int32) by decide), if_neg (show ¬ (nI 4) = (2 : Int32) by decide), if_neg (show ¬ (nI 4) = (3 : Int32) by decide), if_pos (show (nI 4) = (4 : Int32) by decide)]
    have e2 := l2 (Or.inl (by decide))
    have ha := o3 (by decide)
    rw [c0, show (nI 4 - (2 : Int32) : Int32) = nI 2 from rfl, nm_c, h1, chkI_n ha (by decide), nm_c, e2]
    have hcn : (nI (T 0 1)).toNatClampNeg = T 0 1 := nI_clamp (by omega)
    have q1 : (upA mM 2 (upd (mM 2) (T 0 1) (nI 2))) 0 2 = nI (T 0 1) := by rw [upA_r (by decide)]; exact h1
    rw [hcn, q1, chkI_n ha (by decide), nm_c, hcn]
    have q2 : (upA (upA mM 2 (upd (mM 2) (T 0 1) (nI 2))) 3 (upd ((upA mM 2 (upd (mM 2) (T 0 1) (nI 2))) 3) (T 0 1) (nI a1))) 0 2 = nI (T 0 1) := by rw [upA_r (by decide)]; exact q1
    rw [q2, show nI (T 0 1) + (1 : Int32) = nI (T 0 1 + 1) from nI_add _ 1, nm_c, nm_c]
    refine ⟨_, rfl, ?_, ((fDo_A (by decide)).trans (fDo_A (by decide))).trans (fDo_up (by decide))⟩
    show RM _ (stl T 2 a1)
    refine ⟨⟨?_, ?_, ?_, ?_, ?_, ?_⟩, fun q hq => ?_, fun q hq => ?_, fun q hq => ?_, fun q hq => ?_, fun q hq => ?_, fun q hq => ?_, fun q hq => ?_⟩
    · simp (disch := omega) only [up2_s, up2_r, up2_n, upA_s, upA_r, pk_us, pk_un, cpy_n, h0]; simp [stl, tU]
    · simp (disch := omega) only [up2_s, up2_r, up2_n, upA_s, upA_r, pk_us, pk_un, cpy_n]; simp [stl, tU]
    · simp (disch := omega) only [up2_s, up2_r, up2_n, upA_s, upA_r, pk_us, pk_un, cpy_n, h2]; simp [stl, tU]
    · simp (disch := omega) only [up2_s, up2_r, up2_n, upA_s, upA_r, pk_us, pk_un, cpy_n, h3]; simp [stl, tU]
    · simp (disch := omega) only [up2_s, up2_r, up2_n, upA_s, upA_r, pk_us, pk_un, cpy_n, h4]; simp [stl, tU]
    · simp (disch := omega) only [up2_s, up2_r, up2_n, upA_s, upA_r, pk_us, pk_un, cpy_n, h5]; simp [stl, tU]
    · simp (disch := omega) only [up2_s, up2_r, up2_n, upA_s, upA_r, pk_us, pk_un, cpy_n, r1]; simp [stl, tU]
    · simp (disch := omega) only [up2_s, up2_r, up2_n, upA_s, upA_r, pk_us, pk_un, cpy_n]; rw [upd_n (r2 q hq)]; simp [stl, tU]
    · simp (disch := omega) only [up2_s, up2_r, up2_n, upA_s, upA_r, pk_us, pk_un, cpy_n]; rw [upd_n (r3 q hq)]; simp [stl, tU]
    · simp (disch := omega) only [up2_s, up2_r, up2_n, upA_s, upA_r, pk_us, pk_un, cpy_n, r4]; simp [stl, tU]
    · simp (disch := omega) only [up2_s, up2_r, up2_n, upA_s, upA_r, pk_us, pk_un, cpy_n, r5]; simp [stl, tU]
    · simp (disch := omega) only [up2_s, up2_r, up2_n, upA_s, upA_r, pk_us, pk_un, cpy_n, r6]; simp [stl, tU]
    · simp (disch := omega) only [up2_s, up2_r, up2_n, upA_s, upA_r, pk_us, pk_un, cpy_n, r7]; simp [stl, tU]
  · -- 5
    rw [l1, if_neg (show ¬ (nI 5) = (0 : Int32) by decide), if_neg (show ¬ (nI 5) = (1 : Int32) by decide), if_neg (show ¬ (nI 5) = (2 : Int32) by decide), if_neg (show ¬ (nI 5) = (3 : Int32) by decide), if_neg (show ¬ (nI 5) = (4 : Int32) by decide), if_pos (show (nI 5) = (5 : Int32) by decide)]
    have e2 := l2 (Or.inl (by decide))
    have ha := o3 (by decide)
    rw [c0, show (nI 5 - (2 : Int32) : Int32) = nI 3 from rfl, nm_c, h1, chkI_n ha (by decide), nm_c, e2]
    have hcn : (nI (T 0 1)).toNatClampNeg = T 0 1 := nI_clamp (by omega)
    have q1 : (upA mM 2 (upd (mM 2) (T 0 1) (nI 3))) 0 2 = nI (T 0 1) := by rw [upA_r (by decide)]; exact h1
    rw [hcn, q1, chkI_n ha (by decide), nm_c, hcn]
    have q2 : (upA (upA mM 2 (upd (mM 2) (T 0 1) (nI 3))) 3 (upd ((upA mM 2 (upd (mM 2) (T 0 1) (nI 3))) 3) (T 0 1) (nI a1))) 0 2 = nI (T 0 1) := by rw [upA_r (by decide)]; exact q1
    rw [q2, show nI (T 0 1) + (1 : Int32) = nI (T 0 1 + 1) from nI_add _ 1, nm_c, nm_c]
    refine ⟨_, rfl, ?_, ((fDo_A (by decide)).trans (fDo_A (by decide))).trans (fDo_up (by decide))⟩
    show RM _ (stl T 3 a1)
    refine ⟨⟨?_, ?_, ?_, ?_, ?_, ?_⟩, fun q hq => ?_, fun q hq => ?_, fun q hq => ?_, fun q hq => ?_, fun q hq => ?_, fun q hq => ?_, fun q hq => ?_⟩
    · simp (disch := omega) only [up2_s, up2_r, up2_n, upA_s, upA_r, pk_us, pk_un, cpy_n, h0]; simp [stl, tU]
    · simp (disch := omega) only [up2_s, up2_r, up2_n, upA_s, upA_r, pk_us, pk_un, cpy_n]; simp [stl, tU]
    · simp (disch := omega) only [up2_s, up2_r, up2_n, upA_s, upA_r, pk_us, pk_un, cpy_n, h2]; simp [stl, tU]
    · simp (disch := omega) only [up2_s, up2_r, up2_n, upA_s, upA_r, pk_us, pk_un, cpy_n, h3]; simp [stl, tU]
    · simp (disch := omega) only [up2_s, up2_r, up2_n, upA_s, upA_r, pk_us, pk_un, cpy_n, h4]; simp [stl, tU]
    · simp (disch := omega) only [up2_s, up2_r, up2_n, upA_s, upA_r, pk_us, pk_un, cpy_n, h5]; simp [stl, tU]
    · simp (disch := omega) only [up2_s, up2_r, up2_n, upA_s, upA_r, pk_us, pk_un, cpy_n, r1]; simp [stl, tU]
    · simp (disch := omega) only [up2_s, up2_r, up2_n, upA_s, upA_r, pk_us, pk_un, cpy_n]; rw [upd_n (r2 q hq)]; simp [stl, tU]
    · simp (disch := omega) only [up2_s, up2_r, up2_n, upA_s, upA_r, pk_us, pk_un, cpy_n]; rw [upd_n (r3 q hq)]; simp [stl, tU]
    · simp (disch := omega) only [up2_s, up2_r, up2_n, upA_s, upA_r, pk_us, pk_un, cpy_n, r4]; simp [stl, tU]
    · simp (disch := omega) only [up2_s, up2_r, up2_n, upA_s, upA_r, pk_us, pk_un, cpy_n, r5]; simp [stl, tU]
    · simp (disch := omega) only [up2_s, up2_r, up2_n, upA_s, upA_r, pk_us, pk_un, cpy_n, r6]; simp [stl, tU]
    · simp (disch := omega) only [up2_s, up2_r, up2_n, upA_s, upA_r, pk_us, pk_un, cpy_n, r7]; simp [stl, tU]
  · -- 6
    rw [l1, if_neg (show ¬ (nI 6) = (0 : Int32) by decide), if_neg (show ¬ (nI 6) = (1 : Int32) by decide), if_neg (show ¬ (nI 6) = (2 : Int32) by decide), if_neg (show ¬ (nI 6) = (3 : Int32) by decide), if_neg (show ¬ (nI 6) = (4 : Int32) by decide), if_neg (show ¬ (nI 6) = (5 : Int32) by decide), if_pos (show (nI 6) = (6 : Int32) by decide)]
    have e2 := l2 (Or.inl (by decide))
    have e3 := l3 (by decide)
    have ha := o4 rfl
    have x2 : (2 : Int32) * nI (T 0 2) = nI (2 * (T 0 2)) := pk_mul 2 _
    rw [h2, x2, chkI_n (by omega) (by decide), nm_c, e2]
    have hcn : (nI (2 * (T 0 2))).toNatClampNeg = 2 * (T 0 2) := nI_clamp (by omega)
    have q1 : (upA mM 4 (upd (mM 4) (2 * (T 0 2)) (nI a1))) 0 5 = nI (T 0 2) := by rw [upA_r (by decide)]; exact h2
    rw [hcn, q1, x2, show nI (2 * (T 0 2)) + (1 : Int32) = nI (2 * (T 0 2) + 1) from nI_add _ 1, chkI_n (by omega) (by decide), nm_c, e3]
    have hcn1 : (nI (2 * (T 0 2) + 1)).toNatClampNeg = 2 * (T 0 2) + 1 := nI_clamp (by omega)
    rw [hcn1]
    have q2 : (upA (upA mM 4 (upd (mM 4) (2 * (T 0 2)) (nI a1))) 4 (upd ((upA mM 4 (upd (mM 4) (2 * (T 0 2)) (nI a1))) 4) (2 * (T 0 2) + 1) (nI a2))) 0 5 = nI (T 0 2) := by rw [upA_r (by decide)]; exact q1
    rw [q2, show nI (T 0 2) + (1 : Int32) = nI (T 0 2 + 1) from nI_add _ 1, nm_c, nm_c]
    refine ⟨_, rfl, ?_, ((fDo_A (by decide)).trans (fDo_A (by decide))).trans (fDo_up (by decide))⟩
    show RM _ (adP T a1 a2)
    refine ⟨⟨?_, ?_, ?_, ?_, ?_, ?_⟩, fun q hq => ?_, fun q hq => ?_, fun q hq => ?_, fun q hq => ?_, fun q hq => ?_, fun q hq => ?_, fun q hq => ?_⟩
    · simp (disch := omega) only [up2_s, up2_r, up2_n, upA_s, upA_r, pk_us, pk_un, cpy_n, h0]; simp [adP, tU]
    · simp (disch := omega) only [up2_s, up2_r, up2_n, upA_s, upA_r, pk_us, pk_un, cpy_n, h1]; simp [adP, tU]
    · simp (disch := omega) only [up2_s, up2_r, up2_n, upA_s, upA_r, pk_us, pk_un, cpy_n]; simp [adP, tU]
    · simp (disch := omega) only [up2_s, up2_r, up2_n, upA_s, upA_r, pk_us, pk_un, cpy_n, h3]; simp [adP, tU]
    · simp (disch := omega) only [up2_s, up2_r, up2_n, upA_s, upA_r, pk_us, pk_un, cpy_n, h4]; simp [adP, tU]
    · simp (disch := omega) only [up2_s, up2_r, up2_n, upA_s, upA_r, pk_us, pk_un, cpy_n, h5]; simp [adP, tU]
    · simp (disch := omega) only [up2_s, up2_r, up2_n, upA_s, upA_r, pk_us, pk_un, cpy_n, r1]; simp [adP, tU]
    · simp (disch := omega) only [up2_s, up2_r, up2_n, upA_s, upA_r, pk_us, pk_un, cpy_n, r2]; simp [adP, tU]
    · simp (disch := omega) only [up2_s, up2_r, up2_n, upA_s, upA_r, pk_us, pk_un, cpy_n, r3]; simp [adP, tU]
    · rw [up2_r (by decide), upA_s, upA_s]
      by_cases z : q = T 0 2
      · subst z
        rw [pk_un (by omega), pk_us]
        simp [adP, tU]
      · rw [pk_un (by omega), pk_un (by omega), r4 q hq]
        simp [adP, tU, z]
    · rw [up2_r (by decide), upA_s, upA_s]
      by_cases z : q = T 0 2
      · subst z
        rw [pk_us]
        simp [adP, tU]
      · rw [pk_un (by omega), pk_un (by omega), r5 q hq]
        simp [adP, tU, z]
    · simp (disch := omega) only [up2_s, up2_r, up2_n, upA_s, upA_r, pk_us, pk_un, cpy_n, r6]; simp [adP, tU]
    · simp (disch := omega) only [up2_s, up2_r, up2_n, upA_s, upA_r, pk_us, pk_un, cpy_n, r7]; simp [adP, tU]
  · -- 7
    rw [l1, if_neg (show ¬ (nI 7) = (0 : Int32) by decide), if_neg (show ¬ (nI 7) = (1 : Int32) by decide), if_neg (show ¬ (nI 7) = (2 : Int32) by decide), if_neg (show ¬ (nI 7) = (3 : Int32) by decide), if_neg (show ¬ (nI 7) = (4 : Int32) by decide), if_neg (show ¬ (nI 7) = (5 : Int32) by decide), if_neg (show ¬ (nI 7) = (6 : Int32) by decide), if_pos (show (nI 7) = (7 : Int32) by decide)]
    have e2 := l2 (Or.inl (by decide))
    have e3 := l3 (by decide)
    have ha := o5 rfl
    have x2 : (2 : Int32) * nI (T 0 3) = nI (2 * (T 0 3)) := pk_mul 2 _
    rw [h3, x2, chkI_n (by omega) (by decide), nm_c, e2]
    have hcn : (nI (2 * (T 0 3))).toNatClampNeg = 2 * (T 0 3) := nI_clamp (by omega)
    have q1 : (upA mM 5 (upd (mM 5) (2 * (T 0 3)) (nI a1))) 0 7 = nI (T 0 3) := by rw [upA_r (by decide)]; exact h3
    rw [hcn, q1, x2, show nI (2 * (T 0 3)) + (1 : Int32) = nI (2 * (T 0 3) + 1) from nI_add _ 1, chkI_n (by omega) (by decide), nm_c, e3]
    have hcn1 : (nI (2 * (T 0 3) + 1)).toNatClampNeg = 2 * (T 0 3) + 1 := nI_clamp (by omega)
    rw [hcn1]
    have q2 : (upA (upA mM 5 (upd (mM 5) (2 * (T 0 3)) (nI a1))) 5 (upd ((upA mM 5 (upd (mM 5) (2 * (T 0 3)) (nI a1))) 5) (2 * (T 0 3) + 1) (nI a2))) 0 7 = nI (T 0 3) := by rw [upA_r (by decide)]; exact q1
    rw [q2, show nI (T 0 3) + (1 : Int32) = nI (T 0 3 + 1) from nI_add _ 1, nm_c, nm_c]
    refine ⟨_, rfl, ?_, ((fDo_A (by decide)).trans (fDo_A (by decide))).trans (fDo_up (by decide))⟩
    show RM _ (adF T a1 a2)
    refine ⟨⟨?_, ?_, ?_, ?_, ?_, ?_⟩, fun q hq => ?_, fun q hq => ?_, fun q hq => ?_, fun q hq => ?_, fun q hq => ?_, fun q hq => ?_, fun q hq => ?_⟩
    · simp (disch := omega) only [up2_s, up2_r, up2_n, upA_s, upA_r, pk_us, pk_un, cpy_n, h0]; simp [adF, tU]
    · simp (disch := omega) only [up2_s, up2_r, up2_n, upA_s, upA_r, pk_us, pk_un, cpy_n, h1]; simp [adF, tU]
    · simp (disch := omega) only [up2_s, up2_r, up2_n, upA_s, upA_r, pk_us, pk_un, cpy_n, h2]; simp [adF, tU]
    · simp (disch := omega) only [up2_s, up2_r, up2_n, upA_s, upA_r, pk_us, pk_un, cpy_n]; simp [adF, tU]
    · simp (disch := omega) only [up2_s, up2_r, up2_n, upA_s, upA_r, pk_us, pk_un, cpy_n, h4]; simp [adF, tU]
    · simp (disch := omega) only [up2_s, up2_r, up2_n, upA_s, upA_r, pk_us, pk_un, cpy_n, h5]; simp [adF, tU]
    · simp (disch := omega) only [up2_s, up2_r, up2_n, upA_s, upA_r, pk_us, pk_un, cpy_n, r1]; simp [adF, tU]
    · simp (disch := omega) only [up2_s, up2_r, up2_n, upA_s, upA_r, pk_us, pk_un, cpy_n, r2]; simp [adF, tU]
    · simp (disch := omega) only [up2_s, up2_r, up2_n, upA_s, upA_r, pk_us, pk_un, cpy_n, r3]; simp [adF, tU]
    · simp (disch := omega) only [up2_s, up2_r, up2_n, upA_s, upA_r, pk_us, pk_un, cpy_n, r4]; simp [adF, tU]
    · simp (disch := omega) only [up2_s, up2_r, up2_n, upA_s, upA_r, pk_us, pk_un, cpy_n, r5]; simp [adF, tU]
    · rw [up2_r (by decide), upA_s, upA_s]
      by_cases z : q = T 0 3
      · subst z
        rw [pk_un (by omega), pk_us]
        simp [adF, tU]
      · rw [pk_un (by omega), pk_un (by omega), r6 q hq]
        simp [adF, tU, z]
    · rw [up2_r (by decide), upA_s, upA_s]
      by_cases z : q = T 0 3
      · subst z
        rw [pk_us]
        simp [adF, tU]
      · rw [pk_un (by omega), pk_un (by omega), r7 q hq]
        simp [adF, tU, z]
  · -- 8
    rw [l1, if_neg (show ¬ (nI 8) = (0 : Int32) by decide), if_neg (show ¬ (nI 8) = (1 : Int32) by decide), if_neg (show ¬ (nI 8) = (2 : Int32) by decide), if_neg (show ¬ (nI 8) = (3 : Int32) by decide), if_neg (show ¬ (nI 8) = (4 : Int32) by decide), if_neg (show ¬ (nI 8) = (5 : Int32) by decide), if_neg (show ¬ (nI 8) = (6 : Int32) by decide), if_neg (show ¬ (nI 8) = (7 : Int32) by decide), if_pos (show (nI 8) = (8 : Int32) by decide)]
    rw [c0, show (nI 8 - (8 : Int32) : Int32) = nI 0 from rfl, nm_c, nm_c, c0]
    have q1 : (up2 mM 0 9 (nI 0)) 7 w = nI 8 := by rw [up2_r (by decide)]; exact l1
    have q5 : (up2 mM 0 9 (nI 0)) 0 10 = nI (T 0 5) := by rw [up2_n (by decide)]; exact h5
    have q6 : (up2 mM 0 9 (nI 0)) 7 (w + 1) = mM 7 (w + 1) := by rw [up2_r (by decide)]
    rw [q1, if_neg (by decide), nm_c, q5]
    refine ⟨_, rfl, ?_, (fDo_up (by decide)).trans (fDo_up (by decide))⟩
    show RM _ (tU T 0 4 0)
    refine ⟨⟨?_, ?_, ?_, ?_, ?_, ?_⟩, fun q hq => ?_, fun q hq => ?_, fun q hq => ?_, fun q hq => ?_, fun q hq => ?_, fun q hq => ?_, fun q hq => ?_⟩
    · simp (disch := omega) only [up2_s, up2_r, up2_n, upA_s, upA_r, pk_us, pk_un, cpy_n, h0]; simp [tU]
    · simp (disch := omega) only [up2_s, up2_r, up2_n, upA_s, upA_r, pk_us, pk_un, cpy_n, h1]; simp [tU]
    · simp (disch := omega) only [up2_s, up2_r, up2_n, upA_s, upA_r, pk_us, pk_un, cpy_n, h2]; simp [tU]
    · simp (disch := omega) only [up2_s, up2_r, up2_n, upA_s, upA_r, pk_us, pk_un, cpy_n, h3]; simp [tU]
    · simp (disch := omega) only [up2_s, up2_r, up2_n, upA_s, upA_r, pk_us, pk_un, cpy_n]; simp [tU]
    · simp (disch := omega) only [up2_s, up2_r, up2_n, upA_s, upA_r, pk_us, pk_un, cpy_n]; simp [tU]
    · simp (disch := omega) only [up2_s, up2_r, up2_n, upA_s, upA_r, pk_us, pk_un, cpy_n, r1]; simp [tU]
    · simp (disch := omega) only [up2_s, up2_r, up2_n, upA_s, upA_r, pk_us, pk_un, cpy_n, r2]; simp [tU]
    · simp (disch := omega) only [up2_s, up2_r, up2_n, upA_s, upA_r, pk_us, pk_un, cpy_n, r3]; simp [tU]
    · simp (disch := omega) only [up2_s, up2_r, up2_n, upA_s, upA_r, pk_us, pk_un, cpy_n, r4]; simp [tU]
    · simp (disch := omega) only [up2_s, up2_r, up2_n, upA_s, upA_r, pk_us, pk_un, cpy_n, r5]; simp [tU]
    · simp (disch := omega) only [up2_s, up2_r, up2_n, upA_s, upA_r, pk_us, pk_un, cpy_n, r6]; simp [tU]
    · simp (disch := omega) only [up2_s, up2_r, up2_n, upA_s, upA_r, pk_us, pk_un, cpy_n, r7]; simp [tU]
  · -- 9
    rw [l1, if_neg (show ¬ (nI 9) = (0 : Int32) by decide), if_neg (show ¬ (nI 9) = (1 : Int32) by decide), if_neg (show ¬ (nI 9) = (2 : Int32) by decide), if_neg (show ¬ (nI 9) = (3 : Int32) by decide), if_neg (show ¬ (nI 9) = (4 : Int32) by decide), if_neg (show ¬ (nI 9) = (5 : Int32) by decide), if_neg (show ¬ (nI 9) = (6 : Int32) by decide), if_neg (show ¬ (nI 9) = (7 : Int32) by decide), if_neg (show ¬ (nI 9) = (8 : Int32) by decide), if_pos (show (nI 9) = (9 : Int32) by decide)]
    rw [c0, show (nI 9 - (8 : Int32) : Int32) = nI 1 from rfl, nm_c, nm_c, c0]
    have q1 : (up2 mM 0 9 (nI 1)) 7 w = nI 9 := by rw [up2_r (by decide)]; exact l1
    have q5 : (up2 mM 0 9 (nI 1)) 0 10 = nI (T 0 5) := by rw [up2_n (by decide)]; exact h5
    have q6 : (up2 mM 0 9 (nI 1)) 7 (w + 1) = mM 7 (w + 1) := by rw [up2_r (by decide)]
    rw [q1, if_neg (by decide), nm_c, q5]
    refine ⟨_, rfl, ?_, (fDo_up (by decide)).trans (fDo_up (by decide))⟩
    show RM _ (tU T 0 4 1)
    refine ⟨⟨?_, ?_, ?_, ?_, ?_, ?_⟩, fun q hq => ?_, fun q hq => ?_, fun q hq => ?_, fun q hq => ?_, fun q hq => ?_, fun q hq => ?_, fun q hq => ?_⟩
    · simp (disch := omega) only [up2_s, up2_r, up2_n, upA_s, upA_r, pk_us, pk_un, cpy_n, h0]; simp [tU]
    · simp (disch := omega) only [up2_s, up2_r, up2_n, upA_s, upA_r, pk_us, pk_un, cpy_n, h1]; simp [tU]
    · simp (disch := omega) only [up2_s, up2_r, up2_n, upA_s, upA_r, pk_us, pk_un, cpy_n, h2]; simp [tU]
    · simp (disch := omega) only [up2_s, up2_r, up2_n, upA_s, upA_r, pk_us, pk_un, cpy_n, h3]; simp [tU]
    · simp (disch := omega) only [up2_s, up2_r, up2_n, upA_s, upA_r, pk_us, pk_un, cpy_n]; simp [tU]
    · simp (disch := omega) only [up2_s, up2_r, up2_n, upA_s, upA_r, pk_us, pk_un, cpy_n]; simp [tU]
    · simp (disch := omega) only [up2_s, up2_r, up2_n, upA_s, upA_r, pk_us, pk_un, cpy_n, r1]; simp [tU]
    · simp (disch := omega) only [up2_s, up2_r, up2_n, upA_s, upA_r, pk_us, pk_un, cpy_n, r2]; simp [tU]
    · simp (disch := omega) only [up2_s, up2_r, up2_n, upA_s, upA_r, pk_us, pk_un, cpy_n, r3]; simp [tU]
    · simp (disch := omega) only [up2_s, up2_r, up2_n, upA_s, upA_r, pk_us, pk_un, cpy_n, r4]; simp [tU]
    · simp (disch := omega) only [up2_s, up2_r, up2_n, upA_s, upA_r, pk_us, pk_un, cpy_n, r5]; simp [tU]
    · simp (disch := omega) only [up2_s, up2_r, up2_n, upA_s, upA_r, pk_us, pk_un, cpy_n, r6]; simp [tU]
    · simp (disch := omega) only [up2_s, up2_r, up2_n, upA_s, upA_r, pk_us, pk_un, cpy_n, r7]; simp [tU]
  · -- 10
    rw [l1, if_neg (show ¬ (nI 10) = (0 : Int32) by decide), if_neg (show ¬ (nI 10) = (1 : Int32) by decide), if_neg (show ¬ (nI 10) = (2 : Int32) by decide), if_neg (show ¬ (nI 10) = (3 : Int32) by decide), if_neg (show ¬ (nI 10) = (4 : Int32) by decide), if_neg (show ¬ (nI 10) = (5 : Int32) by decide), if_neg (show ¬ (nI 10) = (6 : Int32) by decide), if_neg (show ¬ (nI 10) = (7 : Int32) by decide), if_neg (show ¬ (nI 10) = (8 : Int32) by decide), if_neg (show ¬ (nI 10) = (9 : Int32) by decide), if_pos (show (nI 10) = (10 : Int32) by decide)]
    rw [c0, show (nI 10 - (8 : Int32) : Int32) = nI 2 from rfl, nm_c, nm_c, c0]
    have q1 : (up2 mM 0 9 (nI 2)) 7 w = nI 10 := by rw [up2_r (by decide)]; exact l1
    have q5 : (up2 mM 0 9 (nI 2)) 0 10 = nI (T 0 5) := by rw [up2_n (by decide)]; exact h5
    have q6 : (up2 mM 0 9 (nI 2)) 7 (w + 1) = mM 7 (w + 1) := by rw [up2_r (by decide)]
    rw [q1, if_neg (by decide), nm_c, q5]
    refine ⟨_, rfl, ?_, (fDo_up (by decide)).trans (fDo_up (by decide))⟩
    show RM _ (tU T 0 4 2)
    refine ⟨⟨?_, ?_, ?_, ?_, ?_, ?_⟩, fun q hq => ?_, fun q hq => ?_, fun q hq => ?_, fun q hq => ?_, fun q hq => ?_, fun q hq => ?_, fun q hq => ?_⟩
    · simp (disch := omega) only [up2_s, up2_r, up2_n, upA_s, upA_r, pk_us, pk_un, cpy_n, h0]; simp [tU]
    · simp (disch := omega) only [up2_s, up2_r, up2_n, upA_s, upA_r, pk_us, pk_un, cpy_n, h1]; simp [tU]
    · simp (disch := omega) only [up2_s, up2_r, up2_n, upA_s, upA_r, pk_us, pk_un, cpy_n, h2]; simp [tU]
    · simp (disch := omega) only [up2_s, up2_r, up2_n, upA_s, upA_r, pk_us, pk_un, cpy_n, h3]; simp [tU]
    · simp (disch := omega) only [up2_s, up2_r, up2_n, upA_s, upA_r, pk_us, pk_un, cpy_n]; simp [tU]
    · simp (disch := omega) only [up2_s, up2_r, up2_n, upA_s, upA_r, pk_us, pk_un, cpy_n]; simp [tU]
    · simp (disch := omega) only [up2_s, up2_r, up2_n, upA_s, upA_r, pk_us, pk_un, cpy_n, r1]; simp [tU]
    · simp (disch := omega) only [up2_s, up2_r, up2_n, upA_s, upA_r, pk_us, pk_un, cpy_n, r2]; simp [tU]
    · simp (disch := omega) only [up2_s, up2_r, up2_n, upA_s, upA_r, pk_us, pk_un, cpy_n, r3]; simp [tU]
    · simp (disch := omega) only [up2_s, up2_r, up2_n, upA_s, upA_r, pk_us, pk_un, cpy_n, r4]; simp [tU]
    · simp (disch := omega) only [up2_s, up2_r, up2_n, upA_s, upA_r, pk_us, pk_un, cpy_n, r5]; simp [tU]
    · simp (disch := omega) only [up2_s, up2_r, up2_n, upA_s, upA_r, pk_us, pk_un, cpy_n, r6]; simp [tU]
    · simp (disch := omega) only [up2_s, up2_r, up2_n, upA_s, upA_r, pk_us, pk_un, cpy_n, r7]; simp [tU]
  · -- 11
    rw [l1, if_neg (show ¬ (nI 11) = (0 : Int32) by decide), if_neg (show ¬ (nI 11) = (1 : Int32) by decide), if_neg (show ¬ (nI 11) = (2 : Int32) by decide), if_neg (show ¬ (nI 11) = (3 : Int32) by decide), if_neg (show ¬ (nI 11) = (4 : Int32) by decide), if_neg (show ¬ (nI 11) = (5 : Int32) by decide), if_neg (show ¬ (nI 11) = (6 : Int32) by decide), if_neg (show ¬ (nI 11) = (7 : Int32) by decide), if_neg (show ¬ (nI 11) = (8 : Int32) by decide), if_neg (show ¬ (nI 11) = (9 : Int32) by decide), if_neg (show ¬ (nI 11) = (10 : Int32) by decide), if_pos (show (nI 11) = (11 : Int32) by decide)]
    have e2 := l2 (Or.inr rfl)
    rw [c0, show (nI 11 - (8 : Int32) : Int32) = nI 3 from rfl, nm_c, nm_c, c0]
    have q1 : (up2 mM 0 9 (nI 3)) 7 w = nI 11 := by rw [up2_r (by decide)]; exact l1
    have q5 : (up2 mM 0 9 (nI 3)) 0 10 = nI (T 0 5) := by rw [up2_n (by decide)]; exact h5
    have q6 : (up2 mM 0 9 (nI 3)) 7 (w + 1) = mM 7 (w + 1) := by rw [up2_r (by decide)]
    rw [q1, if_pos (by decide), nm_c, e2]
    refine ⟨_, rfl, ?_, (fDo_up (by decide)).trans (fDo_up (by decide))⟩
    show RM _ (tU (tU T 0 4 3) 0 5 a1)
    refine ⟨⟨?_, ?_, ?_, ?_, ?_, ?_⟩, fun q hq => ?_, fun q hq => ?_, fun q hq => ?_, fun q hq => ?_, fun q hq => ?_, fun q hq => ?_, fun q hq => ?_⟩
    · simp (disch := omega) only [up2_s, up2_r, up2_n, upA_s, upA_r, pk_us, pk_un, cpy_n, h0]; simp [tU]
    · simp (disch := omega) only [up2_s, up2_r, up2_n, upA_s, upA_r, pk_us, pk_un, cpy_n, h1]; simp [tU]
    · simp (disch := omega) only [up2_s, up2_r, up2_n, upA_s, upA_r, pk_us, pk_un, cpy_n, h2]; simp [tU]
    · simp (disch := omega) only [up2_s, up2_r, up2_n, upA_s, upA_r, pk_us, pk_un, cpy_n, h3]; simp [tU]
    · simp (disch := omega) only [up2_s, up2_r, up2_n, upA_s, upA_r, pk_us, pk_un, cpy_n]; simp [tU]
    · simp (disch := omega) only [up2_s, up2_r, up2_n, upA_s, upA_r, pk_us, pk_un, cpy_n]; simp [tU]
    · simp (disch := omega) only [up2_s, up2_r, up2_n, upA_s, upA_r, pk_us, pk_un, cpy_n, r1]; simp [tU]
    · simp (disch := omega) only [up2_s, up2_r, up2_n, upA_s, upA_r, pk_us, pk_un, cpy_n, r2]; simp [tU]
    · simp (disch := omega) only [up2_s, up2_r, up2_n, upA_s, upA_r, pk_us, pk_un, cpy_n, r3]; simp [tU]
    · simp (disch := omega) only [up2_s, up2_r, up2_n, upA_s, upA_r, pk_us, pk_un, cpy_n, r4]; simp [tU]
    · simp (disch := omega) only [up2_s, up2_r, up2_n, upA_s, upA_r, pk_us, pk_un, cpy_n, r5]; simp [tU]
    · simp (disch := omega) only [up2_s, up2_r, up2_n, upA_s, upA_r, pk_us, pk_un, cpy_n, r6]; simp [tU]
    · simp (disch := omega) only [up2_s, up2_r, up2_n, upA_s, upA_r, pk_us, pk_un, cpy_n, r7]; simp [tU]
  · -- 12
    rw [l1, if_neg (show ¬ (nI 12) = (0 : Int32) by decide), if_neg (show ¬ (nI 12) = (1 : Int32) by decide), if_neg (show ¬ (nI 12) = (2 : Int32) by decide), if_neg (show ¬ (nI 12) = (3 : Int32) by decide), if_neg (show ¬ (nI 12) = (4 : Int32) by decide), if_neg (show ¬ (nI 12) = (5 : Int32) by decide), if_neg (show ¬ (nI 12) = (6 : Int32) by decide), if_neg (show ¬ (nI 12) = (7 : Int32) by decide), if_neg (show ¬ (nI 12) = (8 : Int32) by decide), if_neg (show ¬ (nI 12) = (9 : Int32) by decide), if_neg (show ¬ (nI 12) = (10 : Int32) by decide), if_neg (show ¬ (nI 12) = (11 : Int32) by decide), if_pos (show (nI 12) = (12 : Int32) by decide)]
    rw [nm_c, nm_c]
    refine ⟨_, rfl, ?_, (fDo_up (by decide)).trans (fDo_up (by decide))⟩
    show RM _ (rmv T)
    refine ⟨⟨?_, ?_, ?_, ?_, ?_, ?_⟩, fun q hq => ?_, fun q hq => ?_, fun q hq => ?_, fun q hq => ?_, fun q hq => ?_, fun q hq => ?_, fun q hq => ?_⟩
    · simp (disch := omega) only [up2_s, up2_r, up2_n, upA_s, upA_r, pk_us, pk_un, cpy_n, h0]; simp [rmv, tU]
    · simp (disch := omega) only [up2_s, up2_r, up2_n, upA_s, upA_r, pk_us, pk_un, cpy_n]; simp [rmv, tU, lit_n]
    · simp (disch := omega) only [up2_s, up2_r, up2_n, upA_s, upA_r, pk_us, pk_un, cpy_n, h2]; simp [rmv, tU]
    · simp (disch := omega) only [up2_s, up2_r, up2_n, upA_s, upA_r, pk_us, pk_un, cpy_n]; simp [rmv, tU, lit_n]
    · simp (disch := omega) only [up2_s, up2_r, up2_n, upA_s, upA_r, pk_us, pk_un, cpy_n, h4]; simp [rmv, tU]
    · simp (disch := omega) only [up2_s, up2_r, up2_n, upA_s, upA_r, pk_us, pk_un, cpy_n, h5]; simp [rmv, tU]
    · simp (disch := omega) only [up2_s, up2_r, up2_n, upA_s, upA_r, pk_us, pk_un, cpy_n, r1]; simp [rmv, tU]
    · simp (disch := omega) only [up2_s, up2_r, up2_n, upA_s, upA_r, pk_us, pk_un, cpy_n, r2]; simp [rmv, tU]
    · simp (disch := omega) only [up2_s, up2_r, up2_n, upA_s, upA_r, pk_us, pk_un, cpy_n, r3]; simp [rmv, tU]
    · simp (disch := omega) only [up2_s, up2_r, up2_n, upA_s, upA_r, pk_us, pk_un, cpy_n, r4]; simp [rmv, tU]
    · simp (disch := omega) only [up2_s, up2_r, up2_n, upA_s, upA_r, pk_us, pk_un, cpy_n, r5]; simp [rmv, tU]
    · simp (disch := omega) only [up2_s, up2_r, up2_n, upA_s, upA_r, pk_us, pk_un, cpy_n, r6]; simp [rmv, tU]
    · simp (disch := omega) only [up2_s, up2_r, up2_n, upA_s, upA_r, pk_us, pk_un, cpy_n, r7]; simp [rmv, tU]
