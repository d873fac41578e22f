/-! ===== the foretold calls ===== -/
theorem p_copyS {gS gO : GS} {T S : NN} {B : Nat} (hI : IT T) (hR : RS gO T S B) : ∃ g', MX1_copyFrom gS gO = some g' ∧ RS g' T S B := by
  have i2 := hI.1.2.2.1
  obtain ⟨r1, r2, r4, r5, r6, r7, r8⟩ := hR
  unfold MX1_copyFrom
  simp (disch := omega) only [nm, jn0, jn1, jn2, jn3, jn4, jn5, bnd1_s, bnd2_s, bnd3_s, bnd4_s, lit_n, neg1, chkI_n, chkZ_n, chkC_n, bI_B, chkB_0, chkB_1, bI_t, bI_f, clamp_n, nI_add, subn, remn2, nat_rem, divn, pk_mul, ifle_t, ifle_f, iflt_t, iflt_f, ifeq_t, ifeq_f, ifm_f, ifm_t, if_true, if_false]
  refine ⟨_, rfl, fun a ha => ?_, fun a ha => ?_, ?_, ?_, ?_, ?_, ?_⟩
  · simp (disch := omega) only [up2_s, up2_r, up2_n, upA_s, upA_r, pk_us, pk_un, cpy_n]; exact r1 a ha
  · simp (disch := omega) only [up2_s, up2_r, up2_n, upA_s, upA_r, pk_us, pk_un, cpy_n]; exact r2 a ha
  · simp (disch := omega) only [up2_s, up2_r, up2_n, upA_s, upA_r, pk_us, pk_un, cpy_n]; exact r4
  · simp (disch := omega) only [up2_s, up2_r, up2_n, upA_s, upA_r, pk_us, pk_un, cpy_n]; exact r5
  · simp (disch := omega) only [up2_s, up2_r, up2_n, upA_s, upA_r, pk_us, pk_un, cpy_n]; exact r6
  · simp (disch := omega) only [up2_s, up2_r, up2_n, upA_s, upA_r, pk_us, pk_un, cpy_n]; exact r7
  · simp (disch := omega) only [up2_s, up2_r, up2_n, upA_s, upA_r, pk_us, pk_un, cpy_n]; exact r8
/-- how all stands on night 0 -/
def Sx (T : NN) : NN := fun i j => if i = 1 then T 3 j else if i = 0 ∧ j = 7 then T 0 5 else 0
theorem IS_Sx {T : NN} (hI : IT T) : IS T (Sx T) := by
  obtain ⟨⟨a1, a2, a3, a4, a5, a6, a7⟩, b, c, d, e, f, g⟩ := hI
  have e1 : (Sx T) 1 = T 3 := by funext j; simp [Sx]
  refine ⟨fun h hh => by rw [e1]; exact d h hh, by rw [e1]; exact g, Or.inl (by simp [Sx]), by simp [Sx]; omega, fun h hh => by simp [Sx]⟩
theorem p_startS {gS tT : GS} {T : NN} (hT : RT tT T) (hI : IT T) : ∃ g', MX1_startAsTold gS tT = some g' ∧ RS g' T (Sx T) 0 := by
  have i2 := hI.1.2.2.1
  have ht := hT.1.2.2.2.2.2.2
  have t5 := hT.1.2.2.2.2.2.1
  have t3 := hT.2.2.2.1
  have e1 : (Sx T) 1 = T 3 := by funext j; simp [Sx]
  unfold MX1_startAsTold
  simp (disch := omega) only [nm, jn0, jn1, jn2, jn3, jn4, jn5, bnd1_s, bnd2_s, bnd3_s, bnd4_s, lit_n, neg1, chkI_n, chkZ_n, chkC_n, bI_B, chkB_0, chkB_1, bI_t, bI_f, clamp_n, nI_add, subn, remn2, nat_rem, divn, pk_mul, ifle_t, ifle_f, iflt_t, iflt_f, ifeq_t, ifeq_f, ifm_f, ifm_t, if_true, if_false, ht, t5]
  obtain ⟨f', hf, hv⟩ := p_fill 8 (by decide) ((upA gS 1 (va_cpy (tT 3) (gS 1) 0 0 8)) 2) (nI 0)
  rw [hf]
  simp (disch := omega) only [nm, jn0, jn1, jn2, jn3, jn4, jn5, bnd1_s, bnd2_s, bnd3_s, bnd4_s, lit_n, neg1, chkI_n, chkZ_n, chkC_n, bI_B, chkB_0, chkB_1, bI_t, bI_f, clamp_n, nI_add, subn, remn2, nat_rem, divn, pk_mul, ifle_t, ifle_f, iflt_t, iflt_f, ifeq_t, ifeq_f, ifm_f, ifm_t, if_true, if_false, ht, t5]
  refine ⟨_, rfl, fun a ha => ?_, fun a ha => ?_, ?_, ?_, ?_, ?_, ?_⟩
  · simp (disch := omega) only [up2_s, up2_r, up2_n, upA_s, upA_r, pk_us, pk_un, cpy_n]; rw [t3 a (by omega), e1]
  · simp (disch := omega) only [up2_s, up2_r, up2_n, upA_s, upA_r, pk_us, pk_un, cpy_n]; rw [hv a (by omega)]; simp [Sx]
  · simp (disch := omega) only [up2_s, up2_r, up2_n, upA_s, upA_r, pk_us, pk_un, cpy_n]; rw [e1]
  · simp (disch := omega) only [up2_s, up2_r, up2_n, upA_s, upA_r, pk_us, pk_un, cpy_n]; simp [Sx]
  · simp (disch := omega) only [up2_s, up2_r, up2_n, upA_s, upA_r, pk_us, pk_un, cpy_n]; simp [Sx]
  · simp (disch := omega) only [up2_s, up2_r, up2_n, upA_s, upA_r, pk_us, pk_un, cpy_n]; simp [Sx]
  · simp (disch := omega) only [up2_s, up2_r, up2_n, upA_s, upA_r, pk_us, pk_un, cpy_n]
theorem r_begin {mM : GS} {T : NN} (hM : RM mM T) (hI : IT T) : ∃ m', MX5_begin mM = some m' ∧ (∀ i j, i ≠ 8 → m' i j = mM i j) ∧ RN m' T (Sx T) := by
  have i2 := hI.1.2.2.1
  have m3 := hM.2.2.2.1
  have m10 := hM.1.2.2.2.2.2
  unfold MX5_begin jn1
  refine lq2_rel (fun i x (g : GS) => x = nI i ∧ (∀ i j, i ≠ 8 → g i j = mM i j) ∧ (∀ h, h < i → g 8 h = nI (T 3 h)) ∧ (∀ h, h < i → g 8 (8 + h) = mI)) 8 (fun r => ∃ m', r = some m' ∧ (∀ i j, i ≠ 8 → m' i j = mM i j) ∧ RN m' T (Sx T)) ?_ _ _ ⟨rfl, fun i j _ => rfl, fun h hh => absurd hh (Nat.not_lt_zero _), fun h hh => absurd hh (Nat.not_lt_zero _)⟩ (FU_lt (by omega))
  rintro i x g hi ⟨rfl, hg, h1, h2⟩
  by_cases c : i < 8
  · refine Or.inl ⟨c, nI (i + 1), upA (upA g 8 (upd (g 8) i (nI (T 3 i)))) 8 (upd ((upA g 8 (upd (g 8) i (nI (T 3 i)))) 8) (8 + i) mI), ⟨rfl, fun a b k => ?_, fun h hh => ?_, fun h hh => ?_⟩, fun rec => ?_⟩
    · rw [upA_r k, upA_r k]; exact hg a b k
    · rw [upA_s, upA_s, pk_un (by omega)]
      by_cases k : h = i
      · subst k; rw [pk_us]
      · rw [pk_un k]; exact h1 h (by omega)
    · rw [upA_s, upA_s]
      by_cases k : h = i
      · subst k; rw [pk_us]
      · rw [pk_un (by omega), pk_un (by omega)]; exact h2 h (by omega)
    · have e3 : g 3 i = nI (T 3 i) := by rw [hg 3 i (by decide)]; exact m3 i c
      unfold BX5_begin_2
      simp (disch := omega) only [nm, jn0, jn1, jn2, jn3, jn4, jn5, bnd1_s, bnd2_s, bnd3_s, bnd4_s, lit_n, neg1, chkI_n, chkZ_n, chkC_n, bI_B, chkB_0, chkB_1, bI_t, bI_f, clamp_n, nI_add, subn, remn2, nat_rem, divn, pk_mul, ifle_t, ifle_f, iflt_t, iflt_f, ifeq_t, ifeq_f, ifm_f, ifm_t, if_true, if_false, e3]
  · have : i = 8 := by omega
    subst this
    have e10 : g 0 10 = nI (T 0 5) := by rw [hg 0 10 (by decide)]; exact m10
    refine Or.inr ⟨some (p8 (p8 (p8 g 16 0) 17 0) 18 (T 0 5)), ⟨_, rfl, fun a b k => ?_, fun h hh => ?_, fun h hh => ?_, ?_, ?_, ?_⟩, fun rec => ?_⟩
    · unfold p8; rw [upA_r k, upA_r k, upA_r k]; exact hg a b k
    · rw [p8_n (by omega), p8_n (by omega), p8_n (by omega), h1 h (by omega)]; simp [Sx]
    · rw [p8_n (by omega), p8_n (by omega), p8_n (by omega), h2 h (by omega)]; simp [Sx, rI]
    · rw [p8_n (by decide), p8_n (by decide), p8_s]; simp [Sx]
    · rw [p8_n (by decide), p8_s]; simp [Sx]
    · rw [p8_s]; simp [Sx]
    · unfold BX5_begin_2 p8
      simp (disch := omega) only [nm, jn0, jn1, jn2, jn3, jn4, jn5, bnd1_s, bnd2_s, bnd3_s, bnd4_s, lit_n, neg1, chkI_n, chkZ_n, chkC_n, bI_B, chkB_0, chkB_1, bI_t, bI_f, clamp_n, nI_add, subn, remn2, nat_rem, divn, pk_mul, ifle_t, ifle_f, iflt_t, iflt_f, ifeq_t, ifeq_f, ifm_f, ifm_t, if_true, if_false, up2_s, up2_r, up2_n, upA_s, upA_r, pk_us, pk_un, cpy_n, e10]
theorem p_n0 {gS tT : GS} {T S : NN} {law : Nat} (hT : RT tT T) (hI : IT T) (hR : RS gS T S 0) (hS : IS T S) (hN : S 0 5 < 100000) (hlaw : law ≤ 3) (fW : Nat → Int32) : ∃ g' f', MX1_passNight gS fW tT (nI law) = some (g', f') ∧ RS g' T (night T law S) 0 := by
  have := p_passNight hT hI hR hS hN (by decide) hlaw fW
  rwa [mk_0] at this
/-- what both sides hold, together -/
def BV (tT gN mM : GS) (T S : NN) : Prop := RT tT T ∧ IT T ∧ RS gN T S 0 ∧ IS T S ∧ S 0 5 ≤ 9999 ∧ RM mM T ∧ RN mM T S
/-- the reference, nights gone on on what was put aside -/
def gone (mM g : GS) (T S : NN) (law t : Nat) : Prop := bks mM g ∧ RM g T ∧ RN g T (nights T law S t) ∧ g 0 34 = nI law
theorem gone_0 {mM m1 : GS} {T S : NN} (hI : IT T) (hM : RM mM T) (hN : RN mM T S) (h1 : bks mM m1) (h2 : ∀ j, m1 8 j = mM 8 j) (h3 : m1 0 34 = mM 0 9) : gone mM m1 T S (T 0 4) 0 := ⟨h1, hM.fC h1.1, hN.row hI (fun j _ => h2 j), by rw [h3]; exact hM.1.2.2.2.2.1⟩
theorem gone_s {mM g : GS} {T S : NN} {law t : Nat} (hI : IT T) (hS : IS T S) (hlaw : law ≤ 3) (ht : S 0 5 + t < 100000) (h : gone mM g T S law t) : ∃ g', MX5_goNight g = some g' ∧ gone mM g' T S law (t + 1) := by
  obtain ⟨h1, h2, h3, h4⟩ := h
  obtain ⟨g', e, f, n⟩ := r_goNight h2 hI h3 (nights_IS hI hS) h4 hlaw (by rw [nights_N]; exact ht)
  exact ⟨g', e, h1.n f, h2.fN f, n, by rw [f 0 34 (by decide) (by decide) (by decide)]; exact h4⟩
