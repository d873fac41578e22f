/-! ===== the reference: what was told, and how all stands ===== -/
def RM (mM : GS) (T : NN) : Prop := (mM 0 0 = nI (T 0 0) ∧ mM 0 2 = nI (T 0 1) ∧ mM 0 5 = nI (T 0 2) ∧ mM 0 7 = nI (T 0 3) ∧ mM 0 9 = nI (T 0 4) ∧ mM 0 10 = nI (T 0 5)) ∧ (∀ q, q < 12 → mM 1 q = nI (T 1 q)) ∧ (∀ h, h < 8 → mM 2 h = nI (T 2 h)) ∧ (∀ h, h < 8 → mM 3 h = nI (T 3 h)) ∧ (∀ k, k < 6 → mM 4 (2 * k) = nI (T 4 k)) ∧ (∀ k, k < 6 → mM 4 (2 * k + 1) = nI (T 5 k)) ∧ (∀ k, k < 6 → mM 5 (2 * k) = nI (T 6 k)) ∧ (∀ k, k < 6 → mM 5 (2 * k + 1) = nI (T 7 k))
def rI (r : Nat) : Int32 := if r = 0 then mI else nI (r - 1)
def RN (mM : GS) (T S : NN) : Prop := (∀ h, h < T 0 1 → mM 8 h = nI (S 1 h)) ∧ (∀ h, h < T 0 1 → mM 8 (8 + h) = rI (S 2 h)) ∧ mM 8 16 = nI (S 0 5) ∧ mM 8 17 = nI (S 0 6) ∧ mM 8 18 = nI (S 0 7)
/-- what laying of ways leaves -/
def fWs (g g' : GS) : Prop := ∀ i j, i ≠ 13 → (i = 0 → j ≠ 32) → g' i j = g i j
/-- what a night leaves -/
def fNs (g g' : GS) : Prop := ∀ i j, i ≠ 13 → i ≠ 8 → (i = 0 → j ≠ 32) → g' i j = g i j
theorem fWs.refl {g : GS} : fWs g g := fun _ _ _ _ => rfl
theorem fWs.trans {g g' g'' : GS} (h : fWs g g') (h' : fWs g' g'') : fWs g g'' := fun i j a b => (h' i j a b).trans (h i j a b)
theorem fNs.refl {g : GS} : fNs g g := fun _ _ _ _ _ => rfl
theorem fNs.trans {g g' g'' : GS} (h : fNs g g') (h' : fNs g' g'') : fNs g g'' := fun i j a b c => (h' i j a b c).trans (h i j a b c)
theorem fWs.n {g g' : GS} (h : fWs g g') : fNs g g' := fun i j a _ c => h i j a c
theorem RM.fN {g g' : GS} {T : NN} (h : RM g T) (f : fNs g g') : RM g' T := by
  obtain ⟨⟨h0, h1, h2, h3, h4, h5⟩, r1, r2, r3, r4, r5, r6, r7⟩ := h
  refine ⟨⟨?_, ?_, ?_, ?_, ?_, ?_⟩, fun q hq => ?_, fun q hq => ?_, fun q hq => ?_, fun q hq => ?_, fun q hq => ?_, fun q hq => ?_, fun q hq => ?_⟩
  · rw [f 0 0 (by decide) (by decide) (by decide)]; exact h0
  · rw [f 0 2 (by decide) (by decide) (by decide)]; exact h1
  · rw [f 0 5 (by decide) (by decide) (by decide)]; exact h2
  · rw [f 0 7 (by decide) (by decide) (by decide)]; exact h3
  · rw [f 0 9 (by decide) (by decide) (by decide)]; exact h4
  · rw [f 0 10 (by decide) (by decide) (by decide)]; exact h5
  · rw [f 1 _ (by decide) (by decide) (by simp)]; exact r1 q hq
  · rw [f 2 _ (by decide) (by decide) (by simp)]; exact r2 q hq
  · rw [f 3 _ (by decide) (by decide) (by simp)]; exact r3 q hq
  · rw [f 4 _ (by decide) (by decide) (by simp)]; exact r4 q hq
  · rw [f 4 _ (by decide) (by decide) (by simp)]; exact r5 q hq
  · rw [f 5 _ (by decide) (by decide) (by simp)]; exact r6 q hq
  · rw [f 5 _ (by decide) (by decide) (by simp)]; exact r7 q hq
theorem RN.fW {g g' : GS} {T S : NN} (h : RN g T S) (f : fWs g g') : RN g' T S := by
  have e : ∀ j, g' 8 j = g 8 j := fun j => f 8 j (by decide) (by simp)
  obtain ⟨r1, r2, r3, r4, r5⟩ := h
  exact ⟨fun h hh => by rw [e]; exact r1 h hh, fun h hh => by rw [e]; exact r2 h hh, by rw [e]; exact r3, by rw [e]; exact r4, by rw [e]; exact r5⟩
theorem modp_1 {p q : Nat} (h : q < p) : (q + 1 + p) % p = nx p q := by
  unfold nx
  rw [Nat.add_mod_right]
  split
  · rw [Nat.mod_eq_of_lt (by assumption)]
  · rw [show q + 1 = p by omega, Nat.mod_self]
theorem modp_m {p q : Nat} (h : q < p) : (q + p - 1) % p = pv p q := by
  unfold pv
  split
  · subst q; rw [Nat.zero_add, Nat.mod_eq_of_lt (by omega)]
  · rw [show q + p - 1 = q - 1 + p by omega, Nat.add_mod_right, Nat.mod_eq_of_lt (by omega)]
theorem modp_2 {p q : Nat} (h : q < p) (hp : 3 ≤ p) : (q + 2 + p) % p = nx p (nx p q) := by
  rw [Nat.add_mod_right]
  unfold nx
  by_cases c : q + 1 < p
  · rw [if_pos c]
    by_cases d : q + 1 + 1 < p
    · rw [if_pos d, Nat.mod_eq_of_lt (by omega)]
    · rw [if_neg d, show q + 2 = p by omega, Nat.mod_self]
  · rw [if_neg c, if_pos (by omega), show q + 2 = 1 + p by omega, Nat.add_mod_right, Nat.mod_eq_of_lt (by omega)]
theorem r_next {mM : GS} {T : NN} (hM : RM mM T) (hI : IT T) {q k : Nat} (hq : q < 100) (hk : k < 100) : MX5_next mM (nI q) (nI k) = some (nI ((q + k + T 0 0) % T 0 0)) := by
  have h0 := hM.1.1
  have i0 := hI.1.1
  have i1 := hI.1.2.1
  unfold MX5_next
  simp (disch := omega) only [nm, jn0, jn1, jn2, jn3, jn4, jn5, bnd1_s, bnd2_s, bnd3_s, bnd4_s, lit_n, neg1, chkI_n, chkZ_n, chkC_n, bI_B, chkB_0, chkB_1, bI_t, bI_f, clamp_n, nI_add, subn, remn2, nat_rem, divn, pk_mul, ifle_t, ifle_f, iflt_t, iflt_f, ifeq_t, ifeq_f, ifm_f, ifm_t, if_true, if_false, h0]
theorem r_next1 {mM : GS} {T : NN} (hM : RM mM T) (hI : IT T) {q : Nat} (hq : q < T 0 0) : MX5_next mM (nI q) (nI 1) = some (nI (nx (T 0 0) q)) := by
  have i1 := hI.1.2.1
  rw [r_next hM hI (by omega) (by decide), modp_1 hq]
theorem r_next2 {mM : GS} {T : NN} (hM : RM mM T) (hI : IT T) {q : Nat} (hq : q < T 0 0) : MX5_next mM (nI q) (nI 2) = some (nI (nx (T 0 0) (nx (T 0 0) q))) := by
  have i1 := hI.1.2.1
  rw [r_next hM hI (by omega) (by decide), modp_2 hq hI.1.1]
theorem r_nextm {mM : GS} {T : NN} (hM : RM mM T) (hI : IT T) {q : Nat} (hq : q < T 0 0) : MX5_next mM (nI q) mI = some (nI (pv (T 0 0) q)) := by
  have h0 := hM.1.1
  have i0 := hI.1.1
  have i1 := hI.1.2.1
  unfold MX5_next
  rw [h0, chkZ_n (by omega) (by omega)]
  have e : nI q + mI + nI (T 0 0) = nI (q + T 0 0 - 1) := by
    rw [Int32.add_assoc, Int32.add_comm mI, ← Int32.add_assoc, nI_add, addm (by omega)]
  rw [e, remn (by omega) (by omega) (by omega), modp_m hq]
theorem r_full {mM : GS} {T : NN} {P : Nat → Nat} (hM : RM mM T) (hI : IT T) (hP : ∀ h, h < T 0 1 → mM 8 h = nI (P h)) (hl : ∀ h, h < T 0 1 → P h < T 0 0) : MX5_full mM = some (nI (ocN T P (T 0 1))) := by
  have i2 := hI.1.2.2.1
  have i1 := hI.1.2.1
  have i0 := hI.1.1
  have h2 := hM.1.2.1
  unfold MX5_full jn1
  refine lq2_run (fun i => nI (ocN T P i)) nI (T 0 1) _ ?_ ?_ FU (FU_lt (by omega))
  · intro i hi rec
    have hp := hP i hi
    have hpl := hl i hi
    have hk := hM.2.2.1 i (by omega)
    have hkk := hI.2.2.1 i (by omega)
    have hn := r_next1 hM hI hpl
    have hnl : nx (T 0 0) (P i) < T 0 0 := nx_lt (by omega)
    unfold BX5_full_4
    show _ = rec (nI (ocN T P i ||| gr (T 0 0) (T 2 i) (P i))) (nI (i + 1))
    unfold gr
    by_cases c : T 2 i = 3
    · simp (disch := omega) only [nm, jn0, jn1, jn2, jn3, jn4, jn5, bnd1_s, bnd2_s, bnd3_s, bnd4_s, lit_n, neg1, chkI_n, chkZ_n, chkC_n, bI_B, chkB_0, chkB_1, bI_t, bI_f, clamp_n, nI_add, subn, remn2, nat_rem, divn, pk_mul, ifle_t, ifle_f, iflt_t, iflt_f, ifeq_t, ifeq_f, ifm_f, ifm_t, if_true, if_false, h2, hp, hk, hn, shl_1, fa_or, if_pos c, Nat.or_assoc]
    · simp (disch := omega) only [nm, jn0, jn1, jn2, jn3, jn4, jn5, bnd1_s, bnd2_s, bnd3_s, bnd4_s, lit_n, neg1, chkI_n, chkZ_n, chkC_n, bI_B, chkB_0, chkB_1, bI_t, bI_f, clamp_n, nI_add, subn, remn2, nat_rem, divn, pk_mul, ifle_t, ifle_f, iflt_t, iflt_f, ifeq_t, ifeq_f, ifm_f, ifm_t, if_true, if_false, h2, hp, hk, shl_1, fa_or, if_neg c, Nat.or_zero]
  · intro rec
    unfold BX5_full_4
    simp (disch := omega) only [nm, jn0, jn1, jn2, jn3, jn4, jn5, bnd1_s, bnd2_s, bnd3_s, bnd4_s, lit_n, neg1, chkI_n, chkZ_n, chkC_n, bI_B, chkB_0, chkB_1, bI_t, bI_f, clamp_n, nI_add, subn, remn2, nat_rem, divn, pk_mul, ifle_t, ifle_f, iflt_t, iflt_f, ifeq_t, ifeq_f, ifm_f, ifm_t, if_true, if_false, h2]
theorem r_standsOn {mM : GS} {T : NN} {P : Nat → Nat} (hM : RM mM T) (hI : IT T) (hP : ∀ h, h < T 0 1 → mM 8 h = nI (P h)) (hl : ∀ h, h < T 0 1 → P h < T 0 0) {h q : Nat} (hh : h < T 0 1) (hq : q < 100) : MX5_standsOn mM (nI h) (nI q) = some (bI (sOn T P h q)) := by
  have i2 := hI.1.2.2.1
  have i1 := hI.1.2.1
  have i0 := hI.1.1
  have hp := hP h hh
  have hpl := hl h hh
  have hk := hM.2.2.1 h (by omega)
  have hkk := hI.2.2.1 h (by omega)
  have hn := r_next1 hM hI hpl
  have hnl : nx (T 0 0) (P h) < T 0 0 := nx_lt (by omega)
  unfold MX5_standsOn sOn
  by_cases c : P h = q
  · have e : (P h == q) = true := by simpa using c
    rw [e]
    simp (disch := omega) only [nm, jn0, jn1, jn2, jn3, jn4, jn5, bnd1_s, bnd2_s, bnd3_s, bnd4_s, lit_n, neg1, chkI_n, chkZ_n, chkC_n, bI_B, chkB_0, chkB_1, bI_t, bI_f, clamp_n, nI_add, subn, remn2, nat_rem, divn, pk_mul, ifle_t, ifle_f, iflt_t, iflt_f, ifeq_t, ifeq_f, ifm_f, ifm_t, if_true, if_false, hp, Bool.true_or]
  · have e : (P h == q) = false := by simpa using c
    rw [e]
    by_cases k3 : T 2 h = 3
    · have e3 : (T 2 h == 3) = true := by simpa using k3
      rw [e3]
      by_cases d : nx (T 0 0) (P h) = q
      · have e4 : (nx (T 0 0) (P h) == q) = true := by simpa using d
        rw [e4]
        simp (disch := omega) only [nm, jn0, jn1, jn2, jn3, jn4, jn5, bnd1_s, bnd2_s, bnd3_s, bnd4_s, lit_n, neg1, chkI_n, chkZ_n, chkC_n, bI_B, chkB_0, chkB_1, bI_t, bI_f, clamp_n, nI_add, subn, remn2, nat_rem, divn, pk_mul, ifle_t, ifle_f, iflt_t, iflt_f, ifeq_t, ifeq_f, ifm_f, ifm_t, if_true, if_false, hp, hk, hn, Bool.false_or, Bool.true_and]
      · have e4 : (nx (T 0 0) (P h) == q) = false := by simpa using d
        rw [e4]
        simp (disch := omega) only [nm, jn0, jn1, jn2, jn3, jn4, jn5, bnd1_s, bnd2_s, bnd3_s, bnd4_s, lit_n, neg1, chkI_n, chkZ_n, chkC_n, bI_B, chkB_0, chkB_1, bI_t, bI_f, clamp_n, nI_add, subn, remn2, nat_rem, divn, pk_mul, ifle_t, ifle_f, iflt_t, iflt_f, ifeq_t, ifeq_f, ifm_f, ifm_t, if_true, if_false, hp, hk, hn, Bool.false_or, Bool.true_and]
    · have e3 : (T 2 h == 3) = false := by simpa using k3
      rw [e3]
      simp (disch := omega) only [nm, jn0, jn1, jn2, jn3, jn4, jn5, bnd1_s, bnd2_s, bnd3_s, bnd4_s, lit_n, neg1, chkI_n, chkZ_n, chkC_n, bI_B, chkB_0, chkB_1, bI_t, bI_f, clamp_n, nI_add, subn, remn2, nat_rem, divn, pk_mul, ifle_t, ifle_f, iflt_t, iflt_f, ifeq_t, ifeq_f, ifm_f, ifm_t, if_true, if_false, hp, hk, Bool.false_or, Bool.false_and]
theorem r_has {s k : Nat} (hs : s < 2147483648) (hk : k < 31) : MX5_has (nI s) (nI k) = some (bI (s.testBit k)) := by
  unfold MX5_has
  simp only [jn1, lit_n, bit_n hk hs]
  cases s.testBit k
  · simp (disch := omega) only [nm, jn0, jn1, jn2, jn3, jn4, jn5, bnd1_s, bnd2_s, bnd3_s, bnd4_s, lit_n, neg1, chkI_n, chkZ_n, chkC_n, bI_B, chkB_0, chkB_1, bI_t, bI_f, clamp_n, nI_add, subn, remn2, nat_rem, divn, pk_mul, ifle_t, ifle_f, iflt_t, iflt_f, ifeq_t, ifeq_f, ifm_f, ifm_t, if_true, if_false]
  · simp (disch := omega) only [nm, jn0, jn1, jn2, jn3, jn4, jn5, bnd1_s, bnd2_s, bnd3_s, bnd4_s, lit_n, neg1, chkI_n, chkZ_n, chkC_n, bI_B, chkB_0, chkB_1, bI_t, bI_f, clamp_n, nI_add, subn, remn2, nat_rem, divn, pk_mul, ifle_t, ifle_f, iflt_t, iflt_f, ifeq_t, ifeq_f, ifm_f, ifm_t, if_true, if_false]
theorem r_addWay0 {mM : GS} {x : Int32} : MX5_addWay mM (nI 0) x = some mM := by
  unfold MX5_addWay
  simp (disch := omega) only [nm, jn0, jn1, jn2, jn3, jn4, jn5, bnd1_s, bnd2_s, bnd3_s, bnd4_s, lit_n, neg1, chkI_n, chkZ_n, chkC_n, bI_B, chkB_0, chkB_1, bI_t, bI_f, clamp_n, nI_add, subn, remn2, nat_rem, divn, pk_mul, ifle_t, ifle_f, iflt_t, iflt_f, ifeq_t, ifeq_f, ifm_f, ifm_t, if_true, if_false]
/-- a way more -/
def aw (g : GS) (k q : Nat) : GS := up2 (upA g 13 (upd (g 13) k (nI q))) 0 32 (nI (k + 1))
theorem r_addWay1 {mM : GS} {k q : Nat} (h : mM 0 32 = nI k) (hk : k < 8) : MX5_addWay mM (nI 1) (nI q) = some (aw mM k q) := by
  unfold MX5_addWay aw
  simp (disch := omega) only [nm, jn0, jn1, jn2, jn3, jn4, jn5, bnd1_s, bnd2_s, bnd3_s, bnd4_s, lit_n, neg1, chkI_n, chkZ_n, chkC_n, bI_B, chkB_0, chkB_1, bI_t, bI_f, clamp_n, nI_add, subn, remn2, nat_rem, divn, pk_mul, ifle_t, ifle_f, iflt_t, iflt_f, ifeq_t, ifeq_f, ifm_f, ifm_t, if_true, if_false, h, up2_s, up2_r, up2_n, upA_s, upA_r, pk_us, pk_un, cpy_n]
theorem fWs_aw {g : GS} {k q : Nat} : fWs g (aw g k q) := by
  intro i j hi hj
  unfold aw
  by_cases c : i = 0
  · subst c; rw [up2_n (hj rfl), upA_r (by decide)]
  · rw [up2_r c, upA_r hi]
/-- the ways laid so far -/
def wyL (g : GS) (L : List Nat) : Prop := g 0 32 = nI L.length ∧ rowOf (g 13) L
theorem wyL_aw {g : GS} {L : List Nat} {q : Nat} (h : wyL g L) : wyL (aw g L.length q) (L ++ [q]) := by
  refine ⟨?_, ?_⟩
  · unfold aw; rw [up2_s]; simp
  · unfold aw; rw [up2_r (by decide), upA_s]; exact rowOf_add h.2
set_option maxHeartbeats 4000000 in
theorem r_layWays {mM : GS} {T : NN} {P : Nat → Nat} (hM : RM mM T) (hI : IT T) (hP : ∀ h, h < T 0 1 → mM 8 h = nI (P h)) (hl : ∀ h, h < T 0 1 → P h < T 0 0) {h : Nat} (hh : h < T 0 1) : ∃ m', MX5_layWays mM (nI h) = some m' ∧ fWs mM m' ∧ wyL m' (ways T P h) := by
  have i2 := hI.1.2.2.1
  have i1 := hI.1.2.1
  have i0 := hI.1.1
  have i6 := hI.1.2.2.2.1
  have hp := hP h hh
  have hpl := hl h hh
  have hk := hM.2.2.1 h (by omega)
  have hkk := hI.2.2.1 h (by omega)
  have hol := ocN_lt hl
  have e12 := two_12 i1
  unfold ways
  generalize hq : P h = q at *
  obtain ⟨O, hO⟩ : ∃ O, O = ocN T P (T 0 1) := ⟨_, rfl⟩
  rw [← hO] at hol ⊢
  have l1 : nx (T 0 0) q < T 0 0 := nx_lt (by omega)
  have l2 : nx (T 0 0) (nx (T 0 0) q) < T 0 0 := nx_lt (by omega)
  have l3 : pv (T 0 0) q < T 0 0 := pv_lt hpl
  obtain ⟨m0, hm0⟩ : ∃ m, m = up2 mM 0 32 (nI 0) := ⟨_, rfl⟩
  have f0 : fWs mM m0 := by
    intro i j hi hj
    subst hm0
    by_cases c : i = 0
    · subst c; exact up2_n (hj rfl)
    · exact up2_r (by omega) ▸ rfl
  have w0 : wyL m0 [] := ⟨by subst hm0; exact up2_s, rowOf_nil⟩
  have M0 : RM m0 T := hM.fN f0.n
  have P0 : ∀ h, h < T 0 1 → m0 8 h = nI (P h) := fun a ha => by rw [f0 8 a (by decide) (by simp)]; exact hP a ha
  have hf := r_full M0 hI P0 hl
  rw [← hO] at hf
  have hk0 := M0.2.2.1 h (by omega)
  have hp0 : m0 8 h = nI q := by rw [P0 h hh, hq]
  unfold MX5_layWays
  rw [show (0 : Int32) = nI 0 from rfl, ← hm0]
  by_cases k2 : T 2 h = 2
  · refine ⟨m0, ?_, f0, ?_⟩
    · simp (disch := omega) only [nm, jn0, jn1, jn2, jn3, jn4, jn5, bnd1_s, bnd2_s, bnd3_s, bnd4_s, lit_n, neg1, chkI_n, chkZ_n, chkC_n, bI_B, chkB_0, chkB_1, bI_t, bI_f, clamp_n, nI_add, subn, remn2, nat_rem, divn, pk_mul, ifle_t, ifle_f, iflt_t, iflt_f, ifeq_t, ifeq_f, ifm_f, ifm_t, if_true, if_false, hk0, k2]
    · unfold wayF; rw [if_pos k2]; exact w0
  · have n1 := r_next1 M0 hI hpl
    have n2 := r_next2 M0 hI hpl
    have b1 := r_has (s := O) (k := nx (T 0 0) q) (by omega) (by omega)
    have b2 := r_has (s := O) (k := nx (T 0 0) (nx (T 0 0) q)) (by omega) (by omega)
    have b3 := r_has (s := O) (k := pv (T 0 0) q) (by omega) (by omega)
    have loop : ∀ (m : GS) (L : List Nat), L.length ≤ 2 → fWs mM m → wyL m L → ∃ m', lq2 (BX5_layWays_101 (fun mM_31 => some mM_31) (nI h) (nI O) (nI q)) FU (nI 0) m = some m' ∧ fWs mM m' ∧ wyL m' (L ++ (if T 2 h = 1 then wayP T O q (T 0 2) else [])) := by
      intro m L hL fm wm
      refine lq2_rel (fun i x (g : GS) => x = nI i ∧ fWs mM g ∧ wyL g (L ++ wayP T O q i) ∧ (T 2 h = 1 ∨ i = 0)) (T 0 2) (fun r => ∃ m', r = some m' ∧ fWs mM m' ∧ wyL m' (L ++ (if T 2 h = 1 then wayP T O q (T 0 2) else []))) ?_ _ _ ⟨rfl, fm, by simpa [wayP] using wm, Or.inr rfl⟩ (FU_lt (by omega))
      rintro i x g hi ⟨rfl, fg, wg, hc⟩
      have Mg : RM g T := hM.fN fg.n
      have g5 := Mg.1.2.2.1
      have gk := Mg.2.2.1 h (by omega)
      by_cases c1 : T 2 h = 1
      · rw [if_pos c1]
        by_cases c : i < T 0 2
        · refine Or.inl ⟨c, ?_⟩
          have e4 := Mg.2.2.2.2.1 i (by omega)
          have e5 := Mg.2.2.2.2.2.1 i (by omega)
          have hb := hI.2.2.2.2.1 i c
          have hlen : (L ++ wayP T O q i).length ≤ 7 := by
            have := wayP_len (T := T) (O := O) (q := q) (k := i)
            rw [List.length_append]; omega
          have hst : wayP T O q (i + 1) = wayP T O q i ++ (match pEn T i q with
            | none => []
            | some e => if O.testBit e = true then [] else [e]) := rfl
          have fin : ∀ v, pEn T i q = some v → ∃ g', (MX5_addWay g (bI (!O.testBit v)) (nI v) = some g') ∧ fWs mM g' ∧ wyL g' (L ++ wayP T O q (i + 1)) := by
            intro v hv
            cases e : O.testBit v with
            | true =>
              refine ⟨g, ?_, fg, ?_⟩
              · show MX5_addWay g (nI 0) (nI v) = _
                exact r_addWay0
              · rw [hst, hv]; simpa [e] using wg
            | false =>
              refine ⟨aw g (L ++ wayP T O q i).length v, ?_, fg.trans fWs_aw, ?_⟩
              · show MX5_addWay g (nI 1) (nI v) = _
                exact r_addWay1 wg.1 (by omega)
              · rw [hst, hv]
                have := wyL_aw (q := v) wg
                simpa [e] using this
          by_cases d4 : T 4 i = q
          · have hv : pEn T i q = some (T 5 i) := if_pos d4
            obtain ⟨g', ha, fg', wg'⟩ := fin _ hv
            have hb5 := r_has (s := O) (k := T 5 i) (by omega) (by omega)
            refine ⟨nI (i + 1), g', ⟨rfl, fg', wg', Or.inl c1⟩, fun rec => ?_⟩
            unfold BX5_layWays_101
            cases e : O.testBit (T 5 i) with
            | true =>
              rw [e] at ha hb5
              simp (disch := omega) only [nm, jn0, jn1, jn2, jn3, jn4, jn5, bnd1_s, bnd2_s, bnd3_s, bnd4_s, lit_n, neg1, chkI_n, chkZ_n, chkC_n, bI_B, chkB_0, chkB_1, bI_t, bI_f, clamp_n, nI_add, subn, remn2, nat_rem, divn, pk_mul, ifle_t, ifle_f, iflt_t, iflt_f, ifeq_t, ifeq_f, ifm_f, ifm_t, if_true, if_false, g5, gk, c1, e4, e5, hb5, Bool.not_true] at ha ⊢
              simp (disch := omega) only [nm, jn0, jn1, jn2, jn3, jn4, jn5, bnd1_s, bnd2_s, bnd3_s, bnd4_s, lit_n, neg1, chkI_n, chkZ_n, chkC_n, bI_B, chkB_0, chkB_1, bI_t, bI_f, clamp_n, nI_add, subn, remn2, nat_rem, divn, pk_mul, ifle_t, ifle_f, iflt_t, iflt_f, ifeq_t, ifeq_f, ifm_f, ifm_t, if_true, if_false, ha]
            | false =>
              rw [e] at ha hb5
              simp (disch := omega) only [nm, jn0, jn1, jn2, jn3, jn4, jn5, bnd1_s, bnd2_s, bnd3_s, bnd4_s, lit_n, neg1, chkI_n, chkZ_n, chkC_n, bI_B, chkB_0, chkB_1, bI_t, bI_f, clamp_n, nI_add, subn, remn2, nat_rem, divn, pk_mul, ifle_t, ifle_f, iflt_t, iflt_f, ifeq_t, ifeq_f, ifm_f, ifm_t, if_true, if_false, g5, gk, c1, e4, e5, hb5, Bool.not_false] at ha ⊢
              simp (disch := omega) only [nm, jn0, jn1, jn2, jn3, jn4, jn5, bnd1_s, bnd2_s, bnd3_s, bnd4_s, lit_n, neg1, chkI_n, chkZ_n, chkC_n, bI_B, chkB_0, chkB_1, bI_t, bI_f, clamp_n, nI_add, subn, remn2, nat_rem, divn, pk_mul, ifle_t, ifle_f, iflt_t, iflt_f, ifeq_t, ifeq_f, ifm_f, ifm_t, if_true, if_false, ha]
          · by_cases d5 : T 5 i = q
            · have hv : pEn T i q = some (T 4 i) := by unfold pEn; rw [if_neg d4, if_pos d5]
              obtain ⟨g', ha, fg', wg'⟩ := fin _ hv
              have hb5 := r_has (s := O) (k := T 4 i) (by omega) (by omega)
              refine ⟨nI (i + 1), g', ⟨rfl, fg', wg', Or.inl c1⟩, fun rec => ?_⟩
              unfold BX5_layWays_101
              cases e : O.testBit (T 4 i) with
              | true =>
                rw [e] at ha hb5
                simp (disch := omega) only [nm, jn0, jn1, jn2, jn3, jn4, jn5, bnd1_s, bnd2_s, bnd3_s, bnd4_s, lit_n, neg1, chkI_n, chkZ_n, chkC_n, bI_B, chkB_0, chkB_1, bI_t, bI_f, clamp_n, nI_add, subn, remn2, nat_rem, divn, pk_mul, ifle_t, ifle_f, iflt_t, iflt_f, ifeq_t, ifeq_f, ifm_f, ifm_t, if_true, if_false, g5, gk, c1, e4, e5, hb5, Bool.not_true] at ha ⊢
                simp (disch := omega) only [nm, jn0, jn1, jn2, jn3, jn4, jn5, bnd1_s, bnd2_s, bnd3_s, bnd4_s, lit_n, neg1, chkI_n, chkZ_n, chkC_n, bI_B, chkB_0, chkB_1, bI_t, bI_f, clamp_n, nI_add, subn, remn2, nat_rem, divn, pk_mul, ifle_t, ifle_f, iflt_t, iflt_f, ifeq_t, ifeq_f, ifm_f, ifm_t, if_true, if_false, ha]
              | false =>
                rw [e] at ha hb5
                simp (disch := omega) only [nm, jn0, jn1, jn2, jn3, jn4, jn5, bnd1_s, bnd2_s, bnd3_s, bnd4_s, lit_n, neg1, chkI_n, chkZ_n, chkC_n, bI_B, chkB_0, chkB_1, bI_t, bI_f, clamp_n, nI_add, subn, remn2, nat_rem, divn, pk_mul, ifle_t, ifle_f, iflt_t, iflt_f, ifeq_t, ifeq_f, ifm_f, ifm_t, if_true, if_false, g5, gk, c1, e4, e5, hb5, Bool.not_false] at ha ⊢
                simp (disch := omega) only [nm, jn0, jn1, jn2, jn3, jn4, jn5, bnd1_s, bnd2_s, bnd3_s, bnd4_s, lit_n, neg1, chkI_n, chkZ_n, chkC_n, bI_B, chkB_0, chkB_1, bI_t, bI_f, clamp_n, nI_add, subn, remn2, nat_rem, divn, pk_mul, ifle_t, ifle_f, iflt_t, iflt_f, ifeq_t, ifeq_f, ifm_f, ifm_t, if_true, if_false, ha]
            · have hv : pEn T i q = none := by unfold pEn; rw [if_neg d4, if_neg d5]
              refine ⟨nI (i + 1), g, ⟨rfl, fg, ?_, Or.inl c1⟩, fun rec => ?_⟩
              · rw [hst, hv]; simpa using wg
              · unfold BX5_layWays_101
                simp (disch := omega) only [nm, jn0, jn1, jn2, jn3, jn4, jn5, bnd1_s, bnd2_s, bnd3_s, bnd4_s, lit_n, neg1, chkI_n, chkZ_n, chkC_n, bI_B, chkB_0, chkB_1, bI_t, bI_f, clamp_n, nI_add, subn, remn2, nat_rem, divn, pk_mul, ifle_t, ifle_f, iflt_t, iflt_f, ifeq_t, ifeq_f, ifm_f, ifm_t, if_true, if_false, g5, gk, c1, e4, e5, r_addWay0]
        · have : i = T 0 2 := by omega
          subst this
          refine Or.inr ⟨some g, ⟨g, rfl, fg, wg⟩, fun rec => ?_⟩
          unfold BX5_layWays_101
          simp (disch := omega) only [nm, jn0, jn1, jn2, jn3, jn4, jn5, bnd1_s, bnd2_s, bnd3_s, bnd4_s, lit_n, neg1, chkI_n, chkZ_n, chkC_n, bI_B, chkB_0, chkB_1, bI_t, bI_f, clamp_n, nI_add, subn, remn2, nat_rem, divn, pk_mul, ifle_t, ifle_f, iflt_t, iflt_f, ifeq_t, ifeq_f, ifm_f, ifm_t, if_true, if_false, g5]
      · rw [if_neg c1]
        have c0 : i = 0 := hc.resolve_left c1
        subst c0
        refine Or.inr ⟨some g, ⟨g, rfl, fg, by simpa [wayP] using wg⟩, fun rec => ?_⟩
        unfold BX5_layWays_101
        by_cases c : 0 < T 0 2
        · simp (disch := omega) only [nm, jn0, jn1, jn2, jn3, jn4, jn5, bnd1_s, bnd2_s, bnd3_s, bnd4_s, lit_n, neg1, chkI_n, chkZ_n, chkC_n, bI_B, chkB_0, chkB_1, bI_t, bI_f, clamp_n, nI_add, subn, remn2, nat_rem, divn, pk_mul, ifle_t, ifle_f, iflt_t, iflt_f, ifeq_t, ifeq_f, ifm_f, ifm_t, if_true, if_false, g5, gk]
        · simp (disch := omega) only [nm, jn0, jn1, jn2, jn3, jn4, jn5, bnd1_s, bnd2_s, bnd3_s, bnd4_s, lit_n, neg1, chkI_n, chkZ_n, chkC_n, bI_B, chkB_0, chkB_1, bI_t, bI_f, clamp_n, nI_add, subn, remn2, nat_rem, divn, pk_mul, ifle_t, ifle_f, iflt_t, iflt_f, ifeq_t, ifeq_f, ifm_f, ifm_t, if_true, if_false, g5]
    have stp : ∀ (m : GS) (L : List Nat) (v : Nat) (b : Bool), L.length ≤ 1 → fWs mM m → wyL m L → ∃ m', MX5_addWay m (bI (!b)) (nI v) = some m' ∧ fWs mM m' ∧ wyL m' (L ++ (if b = true then [] else [v])) := by
      intro m L v b hL fm wm
      cases b with
      | true => exact ⟨m, r_addWay0, fm, by simpa using wm⟩
      | false => exact ⟨_, r_addWay1 wm.1 (by omega), fm.trans fWs_aw, wyL_aw wm⟩
    have one : ∀ (b : Bool) (v : Nat), (if b = true then ([] : List Nat) else [v]).length ≤ 1 := by
      intro b v
      cases b <;> simp
    have fin : ∀ (b1 b2 : Bool), O.testBit (if T 2 h = 3 then nx (T 0 0) (nx (T 0 0) q) else nx (T 0 0) q) = b1 → O.testBit (pv (T 0 0) q) = b2 → ∃ m', (bnd1 (MX5_addWay m0 (bI (!b1)) (nI (nx (T 0 0) q))) fun m1 => bnd1 (MX5_addWay m1 (bI (!b2)) (nI (pv (T 0 0) q))) fun m2 => lq2 (BX5_layWays_101 (fun mM_31 => some mM_31) (nI h) (nI O) (nI q)) FU (nI 0) m2) = some m' ∧ fWs mM m' ∧ wyL m' (wayF T O q h) := by
      intro b1 b2 h1 h2
      obtain ⟨m1, a1, f1, w1⟩ := stp m0 [] (nx (T 0 0) q) b1 (by simp) f0 w0
      obtain ⟨m2, a2, f2, w2⟩ := stp m1 _ (pv (T 0 0) q) b2 (by rw [List.nil_append]; exact one _ _) f1 w1
      obtain ⟨m3, a3, f3, w3⟩ := loop m2 _ (by rw [List.nil_append, List.length_append]; have := one b1 (nx (T 0 0) q); have := one b2 (pv (T 0 0) q); omega) f2 w2
      refine ⟨m3, ?_, f3, ?_⟩
      · rw [a1, bnd1_s, a2, bnd1_s, a3]
      · unfold wayF
        rw [if_neg k2, h1, h2, ← List.append_assoc]
        rw [List.nil_append] at w3
        exact w3
    have nxm : ∀ (m : GS), fWs mM m → MX5_next m (nI q) mI = some (nI (pv (T 0 0) q)) := fun m fm => r_nextm (hM.fN fm.n) hI hpl
    have fa : ∀ v, fWs mM (aw m0 0 v) := fun v => f0.trans fWs_aw
    have nA := nxm m0 f0
    have nB := nxm _ (fa (nx (T 0 0) q))
    have hw : ∀ v, MX5_addWay m0 (nI 1) (nI v) = some (aw m0 0 v) := fun v => r_addWay1 w0.1 (by decide)
    by_cases k3 : T 2 h = 3
    · obtain ⟨m', g1, g2, g3⟩ := fin _ _ rfl rfl
      refine ⟨m', ?_, g2, g3⟩
      rw [← g1]
      rw [if_pos k3]
      cases e1 : O.testBit (nx (T 0 0) (nx (T 0 0) q)) <;> cases e2 : O.testBit (pv (T 0 0) q) <;> rw [e1] at b2 <;> rw [e2] at b3 <;> simp (disch := omega) only [nm, jn0, jn1, jn2, jn3, jn4, jn5, bnd1_s, bnd2_s, bnd3_s, bnd4_s, lit_n, neg1, chkI_n, chkZ_n, chkC_n, bI_B, chkB_0, chkB_1, bI_t, bI_f, clamp_n, nI_add, subn, remn2, nat_rem, divn, pk_mul, ifle_t, ifle_f, iflt_t, iflt_f, ifeq_t, ifeq_f, ifm_f, ifm_t, if_true, if_false, hk0, hf, hp0, n1, n2, b2, b3, nA, nB, hw, r_addWay0, Bool.not_true, Bool.not_false]
    · obtain ⟨m', g1, g2, g3⟩ := fin _ _ rfl rfl
      refine ⟨m', ?_, g2, g3⟩
      rw [← g1]
      rw [if_neg k3]
      cases e1 : O.testBit (nx (T 0 0) q) <;> cases e2 : O.testBit (pv (T 0 0) q) <;> rw [e1] at b1 <;> rw [e2] at b3 <;> simp (disch := omega) only [nm, jn0, jn1, jn2, jn3, jn4, jn5, bnd1_s, bnd2_s, bnd3_s, bnd4_s, lit_n, neg1, chkI_n, chkZ_n, chkC_n, bI_B, chkB_0, chkB_1, bI_t, bI_f, clamp_n, nI_add, subn, remn2, nat_rem, divn, pk_mul, ifle_t, ifle_f, iflt_t, iflt_f, ifeq_t, ifeq_f, ifm_f, ifm_t, if_true, if_false, hk0, hf, hp0, n1, n2, b1, b3, nA, nB, hw, r_addWay0, Bool.not_true, Bool.not_false]
