/-! the told: changes -/
def tU (T : NN) (i j v : Nat) : NN := fun a b => if a = i ∧ b = j then v else T a b
def lay (T : NN) (p : Nat) : NN := fun a b => if a = 0 then (if b = 0 then p else if b = 5 then 1 else 0) else if a = 1 then 1 else T a b
def rmv (T : NN) : NN := tU (tU T 0 1 0) 0 3 0
def stl (T : NN) (k q : Nat) : NN := tU (tU (tU T 2 (T 0 1) k) 3 (T 0 1) q) 0 1 (T 0 1 + 1)
def adP (T : NN) (a b : Nat) : NN := tU (tU (tU T 4 (T 0 2) a) 5 (T 0 2) b) 0 2 (T 0 2 + 1)
def adF (T : NN) (a b : Nat) : NN := tU (tU (tU T 6 (T 0 3) a) 7 (T 0 3) b) 0 3 (T 0 3 + 1)
theorem ocN_congr {T T' : NN} {P P' : Nat → Nat} (h0 : T 0 0 = T' 0 0) : ∀ {n : Nat}, (∀ h, h < n → T 2 h = T' 2 h) → (∀ h, h < n → P h = P' h) → ocN T P n = ocN T' P' n := by
  intro n
  induction n with
  | zero => intro _ _; rfl
  | succ n ih =>
    intro h1 h2
    unfold ocN
    rw [ih (fun h hh => h1 h (by omega)) (fun h hh => h2 h (by omega)), h0, h1 n (by omega), h2 n (by omega)]
theorem ocN_cg {T T' : NN} {P P' : Nat → Nat} {n n' : Nat} (hn : n = n') (h0 : T 0 0 = T' 0 0) (h1 : ∀ h, T 2 h = T' 2 h) (h2 : ∀ h, P h = P' h) : ocN T P n = ocN T' P' n' := by
  subst hn
  exact ocN_congr h0 (fun h _ => h1 h) (fun h _ => h2 h)
theorem oc_rmv {T : NN} : ocN (rmv T) (rmv T 3) (rmv T 0 1) = 0 := by
  have e : rmv T 0 1 = 0 := by simp [rmv, tU]
  rw [e]
  rfl
theorem oc_lay {T : NN} {p : Nat} : ocN (lay T p) (lay T p 3) (lay T p 0 1) = 0 := by
  have e : lay T p 0 1 = 0 := by simp [lay]
  rw [e]
  rfl
theorem oc_adP {T : NN} {a b : Nat} : ocN (adP T a b) (adP T a b 3) (adP T a b 0 1) = ocN T (T 3) (T 0 1) := by
  have e : adP T a b 0 1 = T 0 1 := by simp [adP, tU]
  rw [e]
  exact ocN_congr (by simp [adP, tU]) (fun h _ => by simp [adP, tU]) (fun h _ => by simp [adP, tU])
theorem oc_adF {T : NN} {a b : Nat} : ocN (adF T a b) (adF T a b 3) (adF T a b 0 1) = ocN T (T 3) (T 0 1) := by
  have e : adF T a b 0 1 = T 0 1 := by simp [adF, tU]
  rw [e]
  exact ocN_congr (by simp [adF, tU]) (fun h _ => by simp [adF, tU]) (fun h _ => by simp [adF, tU])
theorem oc_stl {T : NN} {k q : Nat} : ocN (stl T k q) (stl T k q 3) (stl T k q 0 1) = ocN T (T 3) (T 0 1) ||| gr (T 0 0) k q := by
  have e : stl T k q 0 1 = T 0 1 + 1 := by simp [stl, tU]
  have e0 : stl T k q 0 0 = T 0 0 := by simp [stl, tU]
  have e2 : stl T k q 2 (T 0 1) = k := by simp [stl, tU]
  have e3 : stl T k q 3 (T 0 1) = q := by simp [stl, tU]
  rw [e]
  show ocN (stl T k q) (stl T k q 3) (T 0 1) ||| gr (stl T k q 0 0) (stl T k q 2 (T 0 1)) (stl T k q 3 (T 0 1)) = _
  rw [e0, e2, e3, ocN_congr (T := stl T k q) (T' := T) (P := stl T k q 3) (P' := T 3) e0 (fun h hh => ?_) (fun h hh => ?_)]
  · have : h ≠ T 0 1 := by omega
    simp [stl, tU, this]
  · have : h ≠ T 0 1 := by omega
    simp [stl, tU, this]
theorem p_copyT {tT tO : GS} {T : NN} (hT : RT tO T) : ∃ t', MX3_copyFrom tT tO = some t' ∧ RT t' T := by
  obtain ⟨⟨h0, h1, h2, h3, h4, h5, h6⟩, r1, r2, r3, r4, r5, r6, r7⟩ := hT
  unfold MX3_copyFrom
  simp (disch := omega) only [nm, jn0, jn1, jn2, jn3, jn4, jn5, bnd1_s, bnd2_s, bnd3_s, bnd4_s, lit_n, neg1, chkI_n, chkZ_n, chkC_n, bI_B, chkB_0, chkB_1, bI_t, bI_f, clamp_n, nI_add, subn, remn2, nat_rem, divn, pk_mul, ifle_t, ifle_f, iflt_t, iflt_f, ifeq_t, ifeq_f, ifm_f, ifm_t, if_true, if_false]
  refine ⟨_, rfl, ⟨?_, ?_, ?_, ?_, ?_, ?_, ?_⟩, ?_, ?_, ?_, ?_, ?_, ?_, ?_⟩
  · simp (disch := omega) only [up2_s, up2_r, up2_n, upA_s, upA_r, pk_us, pk_un, cpy_n, h0]
  · simp (disch := omega) only [up2_s, up2_r, up2_n, upA_s, upA_r, pk_us, pk_un, cpy_n, h1]
  · simp (disch := omega) only [up2_s, up2_r, up2_n, upA_s, upA_r, pk_us, pk_un, cpy_n, h2]
  · simp (disch := omega) only [up2_s, up2_r, up2_n, upA_s, upA_r, pk_us, pk_un, cpy_n, h3]
  · simp (disch := omega) only [up2_s, up2_r, up2_n, upA_s, upA_r, pk_us, pk_un, cpy_n, h4]
  · simp (disch := omega) only [up2_s, up2_r, up2_n, upA_s, upA_r, pk_us, pk_un, cpy_n, h5]
  · simp (disch := omega) only [up2_s, up2_r, up2_n, upA_s, upA_r, pk_us, pk_un, cpy_n, h6]
  · intro q hq; simp (disch := omega) only [up2_s, up2_r, up2_n, upA_s, upA_r, pk_us, pk_un, cpy_n, r1]
  · intro q hq; simp (disch := omega) only [up2_s, up2_r, up2_n, upA_s, upA_r, pk_us, pk_un, cpy_n, r2]
  · intro q hq; simp (disch := omega) only [up2_s, up2_r, up2_n, upA_s, upA_r, pk_us, pk_un, cpy_n, r3]
  · intro q hq; simp (disch := omega) only [up2_s, up2_r, up2_n, upA_s, upA_r, pk_us, pk_un, cpy_n, r4]
  · intro q hq; simp (disch := omega) only [up2_s, up2_r, up2_n, upA_s, upA_r, pk_us, pk_un, cpy_n, r5]
  · intro q hq; simp (disch := omega) only [up2_s, up2_r, up2_n, upA_s, upA_r, pk_us, pk_un, cpy_n, r6]
  · intro q hq; simp (disch := omega) only [up2_s, up2_r, up2_n, upA_s, upA_r, pk_us, pk_un, cpy_n, r7]
theorem p_remove {tT : GS} {T : NN} (hT : RT tT T) : ∃ t', MX3_removeHouses tT = some t' ∧ RT t' (rmv T) := by
  obtain ⟨⟨h0, h1, h2, h3, h4, h5, h6⟩, r1, r2, r3, r4, r5, r6, r7⟩ := hT
  unfold MX3_removeHouses
  simp (disch := omega) only [nm, jn0, jn1, jn2, jn3, jn4, jn5, bnd1_s, bnd2_s, bnd3_s, bnd4_s, lit_n, neg1, chkI_n, chkZ_n, chkC_n, bI_B, chkB_0, chkB_1, bI_t, bI_f, clamp_n, nI_add, subn, remn2, nat_rem, divn, pk_mul, ifle_t, ifle_f, iflt_t, iflt_f, ifeq_t, ifeq_f, ifm_f, ifm_t, if_true, if_false]
  refine ⟨_, rfl, ⟨?_, ?_, ?_, ?_, ?_, ?_, ?_⟩, ?_, ?_, ?_, ?_, ?_, ?_, ?_⟩
  · simp (disch := omega) only [up2_s, up2_r, up2_n, upA_s, upA_r, pk_us, pk_un, cpy_n, h0]; simp [rmv, tU]
  · simp (disch := omega) only [up2_s, up2_r, up2_n, upA_s, upA_r, pk_us, pk_un, cpy_n]; simp [rmv, tU]
  · simp (disch := omega) only [up2_s, up2_r, up2_n, upA_s, upA_r, pk_us, pk_un, cpy_n, h2]; simp [rmv, tU]
  · simp (disch := omega) only [up2_s, up2_r, up2_n, upA_s, upA_r, pk_us, pk_un, cpy_n]; simp [rmv, tU]
  · simp (disch := omega) only [up2_s, up2_r, up2_n, upA_s, upA_r, pk_us, pk_un, cpy_n, h4]; simp [rmv, tU]
  · simp (disch := omega) only [up2_s, up2_r, up2_n, upA_s, upA_r, pk_us, pk_un, cpy_n, h5]; simp [rmv, tU]
  · simp (disch := omega) only [up2_s, up2_r, up2_n, upA_s, upA_r, pk_us, pk_un, cpy_n, oc_rmv]
  · intro q hq; simp (disch := omega) only [up2_s, up2_r, up2_n, upA_s, upA_r, pk_us, pk_un, cpy_n, r1]; simp [rmv, tU]
  · intro q hq; simp (disch := omega) only [up2_s, up2_r, up2_n, upA_s, upA_r, pk_us, pk_un, cpy_n, r2]; simp [rmv, tU]
  · intro q hq; simp (disch := omega) only [up2_s, up2_r, up2_n, upA_s, upA_r, pk_us, pk_un, cpy_n, r3]; simp [rmv, tU]
  · intro q hq; simp (disch := omega) only [up2_s, up2_r, up2_n, upA_s, upA_r, pk_us, pk_un, cpy_n, r4]; simp [rmv, tU]
  · intro q hq; simp (disch := omega) only [up2_s, up2_r, up2_n, upA_s, upA_r, pk_us, pk_un, cpy_n, r5]; simp [rmv, tU]
  · intro q hq; simp (disch := omega) only [up2_s, up2_r, up2_n, upA_s, upA_r, pk_us, pk_un, cpy_n, r6]; simp [rmv, tU]
  · intro q hq; simp (disch := omega) only [up2_s, up2_r, up2_n, upA_s, upA_r, pk_us, pk_un, cpy_n, r7]; simp [rmv, tU]
theorem p_layOut {tT : GS} {T : NN} (hT : RT tT T) (p : Nat) : ∃ t', MX3_layOut tT (nI p) = some t' ∧ RT t' (lay T p) := by
  obtain ⟨⟨h0, h1, h2, h3, h4, h5, h6⟩, r1, r2, r3, r4, r5, r6, r7⟩ := hT
  unfold MX3_layOut MX3_removeHouses
  simp (disch := omega) only [nm, jn0, jn1, jn2, jn3, jn4, jn5, bnd1_s, bnd2_s, bnd3_s, bnd4_s, lit_n, neg1, chkI_n, chkZ_n, chkC_n, bI_B, chkB_0, chkB_1, bI_t, bI_f, clamp_n, nI_add, subn, remn2, nat_rem, divn, pk_mul, ifle_t, ifle_f, iflt_t, iflt_f, ifeq_t, ifeq_f, ifm_f, ifm_t, if_true, if_false]
  generalize hg : up2 (up2 (up2 (up2 tT 0 0 (nI p)) 0 2 (nI 0)) 0 4 (nI 0)) 0 5 (nI 1) = g
  obtain ⟨f', hf, hv⟩ := p_fill 12 (by decide) (g 1) (nI 1)
  rw [hf]
  simp (disch := omega) only [nm, jn0, jn1, jn2, jn3, jn4, jn5, bnd1_s, bnd2_s, bnd3_s, bnd4_s, lit_n, neg1, chkI_n, chkZ_n, chkC_n, bI_B, chkB_0, chkB_1, bI_t, bI_f, clamp_n, nI_add, subn, remn2, nat_rem, divn, pk_mul, ifle_t, ifle_f, iflt_t, iflt_f, ifeq_t, ifeq_f, ifm_f, ifm_t, if_true, if_false]
  refine ⟨_, rfl, ⟨?_, ?_, ?_, ?_, ?_, ?_, ?_⟩, ?_, ?_, ?_, ?_, ?_, ?_, ?_⟩
  · subst hg; simp (disch := omega) only [up2_s, up2_r, up2_n, upA_s, upA_r, pk_us, pk_un, cpy_n]; simp [lay]
  · subst hg; simp (disch := omega) only [up2_s, up2_r, up2_n, upA_s, upA_r, pk_us, pk_un, cpy_n]; simp [lay]
  · subst hg; simp (disch := omega) only [up2_s, up2_r, up2_n, upA_s, upA_r, pk_us, pk_un, cpy_n]; simp [lay]
  · subst hg; simp (disch := omega) only [up2_s, up2_r, up2_n, upA_s, upA_r, pk_us, pk_un, cpy_n]; simp [lay]
  · subst hg; simp (disch := omega) only [up2_s, up2_r, up2_n, upA_s, upA_r, pk_us, pk_un, cpy_n]; simp [lay]
  · subst hg; simp (disch := omega) only [up2_s, up2_r, up2_n, upA_s, upA_r, pk_us, pk_un, cpy_n]; simp [lay]
  · subst hg; simp (disch := omega) only [up2_s, up2_r, up2_n, upA_s, upA_r, pk_us, pk_un, cpy_n, oc_lay]
  · intro q hq; simp (disch := omega) only [up2_s, up2_r, up2_n, upA_s, upA_r, pk_us, pk_un, cpy_n, hv]; simp [lay]
  · intro q hq; subst hg; simp (disch := omega) only [up2_s, up2_r, up2_n, upA_s, upA_r, pk_us, pk_un, cpy_n, r2]; simp [lay]
  · intro q hq; subst hg; simp (disch := omega) only [up2_s, up2_r, up2_n, upA_s, upA_r, pk_us, pk_un, cpy_n, r3]; simp [lay]
  · intro q hq; subst hg; simp (disch := omega) only [up2_s, up2_r, up2_n, upA_s, upA_r, pk_us, pk_un, cpy_n, r4]; simp [lay]
  · intro q hq; subst hg; simp (disch := omega) only [up2_s, up2_r, up2_n, upA_s, upA_r, pk_us, pk_un, cpy_n, r5]; simp [lay]
  · intro q hq; subst hg; simp (disch := omega) only [up2_s, up2_r, up2_n, upA_s, upA_r, pk_us, pk_un, cpy_n, r6]; simp [lay]
  · intro q hq; subst hg; simp (disch := omega) only [up2_s, up2_r, up2_n, upA_s, upA_r, pk_us, pk_un, cpy_n, r7]; simp [lay]
theorem upd_n {f : Nat → Int32} {k v q : Nat} {g : Nat → Nat} (h : f q = nI (g q)) : upd f k (nI v) q = nI (if q = k then v else g q) := by
  by_cases c : q = k
  · subst c; rw [pk_us, if_pos rfl]
  · rw [pk_un c, if_neg c, h]
theorem p_settle {tT : GS} {T : NN} (hT : RT tT T) (hI : IT T) {k q : Nat} (hk : k ≤ 3) (hq : q < T 0 0) (h8 : T 0 1 < 8) :
    (let c := ocN T (T 3) (T 0 1) &&& gr (T 0 0) k q = 0 ∧ ocN T (T 3) (T 0 1) ||| gr (T 0 0) k q ≠ 2 ^ T 0 0 - 1
     (¬ c → MX3_settle tT (nI k) (nI q) = some (0, tT)) ∧ (c → ∃ t', MX3_settle tT (nI k) (nI q) = some (1, t') ∧ RT t' (stl T k q))) := by
  have hg := p_ground hT hI hk hq
  have ha := p_allPlots hT hI
  have i1 := hI.1.2.1
  have ol : ocN T (T 3) (T 0 1) < 2 ^ T 0 0 := ocN_lt hI.2.2.2.1
  have gl : gr (T 0 0) k q < 2 ^ T 0 0 := gr_lt hq
  have orl : ocN T (T 3) (T 0 1) ||| gr (T 0 0) k q < 2 ^ T 0 0 := or_lt ol gl
  have andl : ocN T (T 3) (T 0 1) &&& gr (T 0 0) k q < 2 ^ T 0 0 := Nat.and_lt_two_pow _ gl
  have e12 := two_12 i1
  obtain ⟨⟨h0, h1, h2, h3, h4, h5, h6⟩, r1, r2, r3, r4, r5, r6, r7⟩ := hT
  intro c
  unfold MX3_settle
  refine ⟨fun hc => ?_, fun hc => ?_⟩
  · by_cases c1 : ocN T (T 3) (T 0 1) &&& gr (T 0 0) k q = 0
    · have c2 : ocN T (T 3) (T 0 1) ||| gr (T 0 0) k q = 2 ^ T 0 0 - 1 := Decidable.byContradiction fun z => hc ⟨c1, z⟩
      simp (disch := omega) only [nm, jn0, jn1, jn2, jn3, jn4, jn5, bnd1_s, bnd2_s, bnd3_s, bnd4_s, lit_n, neg1, chkI_n, chkZ_n, chkC_n, bI_B, chkB_0, chkB_1, bI_t, bI_f, clamp_n, nI_add, subn, remn2, nat_rem, divn, pk_mul, ifle_t, ifle_f, iflt_t, iflt_f, ifeq_t, ifeq_f, ifm_f, ifm_t, if_true, if_false, h6, hg, ha, h1, fa_and, fa_or, c1, c2]
    · simp (disch := omega) only [nm, jn0, jn1, jn2, jn3, jn4, jn5, bnd1_s, bnd2_s, bnd3_s, bnd4_s, lit_n, neg1, chkI_n, chkZ_n, chkC_n, bI_B, chkB_0, chkB_1, bI_t, bI_f, clamp_n, nI_add, subn, remn2, nat_rem, divn, pk_mul, ifle_t, ifle_f, iflt_t, iflt_f, ifeq_t, ifeq_f, ifm_f, ifm_t, if_true, if_false, h6, hg, ha, h1, fa_and, fa_or]
  · obtain ⟨c1, c2⟩ := hc
    simp (disch := omega) only [nm, jn0, jn1, jn2, jn3, jn4, jn5, bnd1_s, bnd2_s, bnd3_s, bnd4_s, lit_n, neg1, chkI_n, chkZ_n, chkC_n, bI_B, chkB_0, chkB_1, bI_t, bI_f, clamp_n, nI_add, subn, remn2, nat_rem, divn, pk_mul, ifle_t, ifle_f, iflt_t, iflt_f, ifeq_t, ifeq_f, ifm_f, ifm_t, if_true, if_false, h6, hg, ha, h1, fa_and, fa_or, up2_s, up2_r, up2_n, upA_s, upA_r, pk_us, pk_un, cpy_n]
    refine ⟨_, rfl, ⟨?_, ?_, ?_, ?_, ?_, ?_, ?_⟩, ?_, ?_, ?_, ?_, ?_, ?_, ?_⟩
    · simp (disch := omega) only [up2_s, up2_r, up2_n, upA_s, upA_r, pk_us, pk_un, cpy_n, h0]; simp [stl, tU]
    · simp (disch := omega) only [up2_s, up2_r, up2_n, upA_s, upA_r, pk_us, pk_un, cpy_n, h1]; simp [stl, tU]
    · simp (disch := omega) only [up2_s, up2_r, up2_n, upA_s, upA_r, pk_us, pk_un, cpy_n, h2]; simp [stl, tU]
    · simp (disch := omega) only [up2_s, up2_r, up2_n, upA_s, upA_r, pk_us, pk_un, cpy_n, h3]; simp [stl, tU]
    · simp (disch := omega) only [up2_s, up2_r, up2_n, upA_s, upA_r, pk_us, pk_un, cpy_n, h4]; simp [stl, tU]
    · simp (disch := omega) only [up2_s, up2_r, up2_n, upA_s, upA_r, pk_us, pk_un, cpy_n, h5]; simp [stl, tU]
    · simp (disch := omega) only [up2_s, up2_r, up2_n, upA_s, upA_r, pk_us, pk_un, cpy_n, h6, fa_or, oc_stl]
    · intro q hq; simp (disch := omega) only [up2_s, up2_r, up2_n, upA_s, upA_r, pk_us, pk_un, cpy_n, r1]; simp [stl, tU]
    · intro q hq; simp (disch := omega) only [up2_s, up2_r, up2_n, upA_s, upA_r, pk_us, pk_un, cpy_n]; rw [upd_n (r2 q hq)]; simp [stl, tU]
    · intro q hq; simp (disch := omega) only [up2_s, up2_r, up2_n, upA_s, upA_r, pk_us, pk_un, cpy_n]; rw [upd_n (r3 q hq)]; simp [stl, tU]
    · intro q hq; simp (disch := omega) only [up2_s, up2_r, up2_n, upA_s, upA_r, pk_us, pk_un, cpy_n, r4]; simp [stl, tU]
    · intro q hq; simp (disch := omega) only [up2_s, up2_r, up2_n, upA_s, upA_r, pk_us, pk_un, cpy_n, r5]; simp [stl, tU]
    · intro q hq; simp (disch := omega) only [up2_s, up2_r, up2_n, upA_s, upA_r, pk_us, pk_un, cpy_n, r6]; simp [stl, tU]
    · intro q hq; simp (disch := omega) only [up2_s, up2_r, up2_n, upA_s, upA_r, pk_us, pk_un, cpy_n, r7]; simp [stl, tU]
theorem p_addPath {tT : GS} {T : NN} (hT : RT tT T) (hI : IT T) {a b : Nat} (ha : a < 100) (hb : b < 100) (h6 : T 0 2 < 6) :
    (a = b → MX3_addPath tT (nI a) (nI b) = some (0, tT)) ∧ (a ≠ b → ∃ t', MX3_addPath tT (nI a) (nI b) = some (1, t') ∧ RT t' (adP T a b)) := by
  obtain ⟨⟨h0, h1, h2, h3, h4, h5, h6⟩, r1, r2, r3, r4, r5, r6, r7⟩ := hT
  unfold MX3_addPath
  refine ⟨fun hc => ?_, fun hc => ?_⟩
  · simp (disch := omega) only [nm, jn0, jn1, jn2, jn3, jn4, jn5, bnd1_s, bnd2_s, bnd3_s, bnd4_s, lit_n, neg1, chkI_n, chkZ_n, chkC_n, bI_B, chkB_0, chkB_1, bI_t, bI_f, clamp_n, nI_add, subn, remn2, nat_rem, divn, pk_mul, ifle_t, ifle_f, iflt_t, iflt_f, ifeq_t, ifeq_f, ifm_f, ifm_t, if_true, if_false, h2]
  · simp (disch := omega) only [nm, jn0, jn1, jn2, jn3, jn4, jn5, bnd1_s, bnd2_s, bnd3_s, bnd4_s, lit_n, neg1, chkI_n, chkZ_n, chkC_n, bI_B, chkB_0, chkB_1, bI_t, bI_f, clamp_n, nI_add, subn, remn2, nat_rem, divn, pk_mul, ifle_t, ifle_f, iflt_t, iflt_f, ifeq_t, ifeq_f, ifm_f, ifm_t, if_true, if_false, h2, up2_s, up2_r, up2_n, upA_s, upA_r, pk_us, pk_un, cpy_n]
    refine ⟨_, rfl, ⟨?_, ?_, ?_, ?_, ?_, ?_, ?_⟩, ?_, ?_, ?_, ?_, ?_, ?_, ?_⟩
    · simp (disch := omega) only [up2_s, up2_r, up2_n, upA_s, upA_r, pk_us, pk_un, cpy_n, h0]; simp [adP, tU]
    · simp (disch := omega) only [up2_s, up2_r, up2_n, upA_s, upA_r, pk_us, pk_un, cpy_n, h1]; simp [adP, tU]
    · simp (disch := omega) only [up2_s, up2_r, up2_n, upA_s, upA_r, pk_us, pk_un, cpy_n, h2]; simp [adP, tU]
    · simp (disch := omega) only [up2_s, up2_r, up2_n, upA_s, upA_r, pk_us, pk_un, cpy_n, h3]; simp [adP, tU]
    · simp (disch := omega) only [up2_s, up2_r, up2_n, upA_s, upA_r, pk_us, pk_un, cpy_n, h4]; simp [adP, tU]
    · simp (disch := omega) only [up2_s, up2_r, up2_n, upA_s, upA_r, pk_us, pk_un, cpy_n, h5]; simp [adP, tU]
    · simp (disch := omega) only [up2_s, up2_r, up2_n, upA_s, upA_r, pk_us, pk_un, cpy_n, h6, oc_adP]
    · intro q hq; simp (disch := omega) only [up2_s, up2_r, up2_n, upA_s, upA_r, pk_us, pk_un, cpy_n, r1]; simp [adP, tU]
    · intro q hq; simp (disch := omega) only [up2_s, up2_r, up2_n, upA_s, upA_r, pk_us, pk_un, cpy_n, r2]; simp [adP, tU]
    · intro q hq; simp (disch := omega) only [up2_s, up2_r, up2_n, upA_s, upA_r, pk_us, pk_un, cpy_n, r3]; simp [adP, tU]
    · intro q hq; simp (disch := omega) only [up2_s, up2_r, up2_n, upA_s, upA_r, pk_us, pk_un, cpy_n]; rw [upd_n (r4 q hq)]; simp [adP, tU]
    · intro q hq; simp (disch := omega) only [up2_s, up2_r, up2_n, upA_s, upA_r, pk_us, pk_un, cpy_n]; rw [upd_n (r5 q hq)]; simp [adP, tU]
    · intro q hq; simp (disch := omega) only [up2_s, up2_r, up2_n, upA_s, upA_r, pk_us, pk_un, cpy_n, r6]; simp [adP, tU]
    · intro q hq; simp (disch := omega) only [up2_s, up2_r, up2_n, upA_s, upA_r, pk_us, pk_un, cpy_n, r7]; simp [adP, tU]
theorem p_addFeud {tT : GS} {T : NN} (hT : RT tT T) (hI : IT T) {a b : Nat} (ha : a < 100) (hb : b < 100) (h6 : T 0 3 < 6) :
    (a = b → MX3_addFeud tT (nI a) (nI b) = some (0, tT)) ∧ (a ≠ b → ∃ t', MX3_addFeud tT (nI a) (nI b) = some (1, t') ∧ RT t' (adF T a b)) := by
  obtain ⟨⟨h0, h1, h2, h3, h4, h5, h6⟩, r1, r2, r3, r4, r5, r6, r7⟩ := hT
  unfold MX3_addFeud
  refine ⟨fun hc => ?_, fun hc => ?_⟩
  · simp (disch := omega) only [nm, jn0, jn1, jn2, jn3, jn4, jn5, bnd1_s, bnd2_s, bnd3_s, bnd4_s, lit_n, neg1, chkI_n, chkZ_n, chkC_n, bI_B, chkB_0, chkB_1, bI_t, bI_f, clamp_n, nI_add, subn, remn2, nat_rem, divn, pk_mul, ifle_t, ifle_f, iflt_t, iflt_f, ifeq_t, ifeq_f, ifm_f, ifm_t, if_true, if_false, h3]
  · simp (disch := omega) only [nm, jn0, jn1, jn2, jn3, jn4, jn5, bnd1_s, bnd2_s, bnd3_s, bnd4_s, lit_n, neg1, chkI_n, chkZ_n, chkC_n, bI_B, chkB_0, chkB_1, bI_t, bI_f, clamp_n, nI_add, subn, remn2, nat_rem, divn, pk_mul, ifle_t, ifle_f, iflt_t, iflt_f, ifeq_t, ifeq_f, ifm_f, ifm_t, if_true, if_false, h3, up2_s, up2_r, up2_n, upA_s, upA_r, pk_us, pk_un, cpy_n]
    refine ⟨_, rfl, ⟨?_, ?_, ?_, ?_, ?_, ?_, ?_⟩, ?_, ?_, ?_, ?_, ?_, ?_, ?_⟩
    · simp (disch := omega) only [up2_s, up2_r, up2_n, upA_s, upA_r, pk_us, pk_un, cpy_n, h0]; simp [adF, tU]
    · simp (disch := omega) only [up2_s, up2_r, up2_n, upA_s, upA_r, pk_us, pk_un, cpy_n, h1]; simp [adF, tU]
    · simp (disch := omega) only [up2_s, up2_r, up2_n, upA_s, upA_r, pk_us, pk_un, cpy_n, h2]; simp [adF, tU]
    · simp (disch := omega) only [up2_s, up2_r, up2_n, upA_s, upA_r, pk_us, pk_un, cpy_n, h3]; simp [adF, tU]
    · simp (disch := omega) only [up2_s, up2_r, up2_n, upA_s, upA_r, pk_us, pk_un, cpy_n, h4]; simp [adF, tU]
    · simp (disch := omega) only [up2_s, up2_r, up2_n, upA_s, upA_r, pk_us, pk_un, cpy_n, h5]; simp [adF, tU]
    · simp (disch := omega) only [up2_s, up2_r, up2_n, upA_s, upA_r, pk_us, pk_un, cpy_n, h6, oc_adF]
    · intro q hq; simp (disch := omega) only [up2_s, up2_r, up2_n, upA_s, upA_r, pk_us, pk_un, cpy_n, r1]; simp [adF, tU]
    · intro q hq; simp (disch := omega) only [up2_s, up2_r, up2_n, upA_s, upA_r, pk_us, pk_un, cpy_n, r2]; simp [adF, tU]
    · intro q hq; simp (disch := omega) only [up2_s, up2_r, up2_n, upA_s, upA_r, pk_us, pk_un, cpy_n, r3]; simp [adF, tU]
    · intro q hq; simp (disch := omega) only [up2_s, up2_r, up2_n, upA_s, upA_r, pk_us, pk_un, cpy_n, r4]; simp [adF, tU]
    · intro q hq; simp (disch := omega) only [up2_s, up2_r, up2_n, upA_s, upA_r, pk_us, pk_un, cpy_n, r5]; simp [adF, tU]
    · intro q hq; simp (disch := omega) only [up2_s, up2_r, up2_n, upA_s, upA_r, pk_us, pk_un, cpy_n]; rw [upd_n (r6 q hq)]; simp [adF, tU]
    · intro q hq; simp (disch := omega) only [up2_s, up2_r, up2_n, upA_s, upA_r, pk_us, pk_un, cpy_n]; rw [upd_n (r7 q hq)]; simp [adF, tU]
/-- the other end of the k-th path of a plot -/
def pEn (T : NN) (k q : Nat) : Option Nat := if T 4 k = q then some (T 5 k) else if T 5 k = q then some (T 4 k) else none
def oI (o : Option Nat) : Int32 := match o with
  | some a => nI a
  | none => mI
theorem pEn_lt {T : NN} (hI : IT T) {k q e : Nat} (hk : k < T 0 2) (h : pEn T k q = some e) : e < T 0 0 := by
  have := hI.2.2.2.2.1 k hk
  unfold pEn at h
  split at h
  · cases h; exact this.2
  · split at h
    · cases h; exact this.1
    · cases h
theorem p_otherEnd {tT : GS} {T : NN} (hT : RT tT T) (hI : IT T) {k q : Nat} (hk : k < T 0 2) (hq : q < 100) : MX3_otherEnd tT (nI k) (nI q) = some (oI (pEn T k q)) := by
  obtain ⟨-, r1, r2, r3, r4, r5, r6, r7⟩ := hT
  have i6 := hI.1.2.2.2.1
  have i1 := hI.1.2.1
  have := hI.2.2.2.2.1 k hk
  have e4 := r4 k (by omega)
  have e5 := r5 k (by omega)
  unfold MX3_otherEnd pEn
  by_cases c : T 4 k = q
  · simp (disch := omega) only [nm, jn0, jn1, jn2, jn3, jn4, jn5, bnd1_s, bnd2_s, bnd3_s, bnd4_s, lit_n, neg1, chkI_n, chkZ_n, chkC_n, bI_B, chkB_0, chkB_1, bI_t, bI_f, clamp_n, nI_add, subn, remn2, nat_rem, divn, pk_mul, ifle_t, ifle_f, iflt_t, iflt_f, ifeq_t, ifeq_f, ifm_f, ifm_t, if_true, if_false, e4, e5, if_pos c, oI]
  · by_cases d : T 5 k = q
    · simp (disch := omega) only [nm, jn0, jn1, jn2, jn3, jn4, jn5, bnd1_s, bnd2_s, bnd3_s, bnd4_s, lit_n, neg1, chkI_n, chkZ_n, chkC_n, bI_B, chkB_0, chkB_1, bI_t, bI_f, clamp_n, nI_add, subn, remn2, nat_rem, divn, pk_mul, ifle_t, ifle_f, iflt_t, iflt_f, ifeq_t, ifeq_f, ifm_f, ifm_t, if_true, if_false, e4, e5, if_neg c, if_pos d, oI]
    · simp (disch := omega) only [nm, jn0, jn1, jn2, jn3, jn4, jn5, bnd1_s, bnd2_s, bnd3_s, bnd4_s, lit_n, neg1, chkI_n, chkZ_n, chkC_n, bI_B, chkB_0, chkB_1, bI_t, bI_f, clamp_n, nI_add, subn, remn2, nat_rem, divn, pk_mul, ifle_t, ifle_f, iflt_t, iflt_f, ifeq_t, ifeq_f, ifm_f, ifm_t, if_true, if_false, e4, e5, if_neg c, if_neg d, oI]
