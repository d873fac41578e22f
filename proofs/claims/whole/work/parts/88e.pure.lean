/-! the reference's search -/
theorem r_restore {g : GS} {d : Nat} (hd : d < 6) : ∃ g1, MX5_restore g (nI d) = some g1 ∧ (∀ j, j < 8 → g1 8 j = g 15 (8 * d + j)) ∧ (∀ i j, i ≠ 8 → g1 i j = g i j) := by
  unfold MX5_restore jn1
  refine lq2_rel (fun i x (z : GS) => x = nI i ∧ (∀ j, j < i → z 8 j = g 15 (8 * d + j)) ∧ (∀ i j, i ≠ 8 → z i j = g i j)) 8 (fun r => ∃ g1 : GS, r = some g1 ∧ (∀ j, j < 8 → g1 8 j = g 15 (8 * d + j)) ∧ (∀ i j, i ≠ 8 → g1 i j = g i j)) ?_ _ _ ⟨rfl, fun j h => absurd h (Nat.not_lt_zero _), fun _ _ _ => rfl⟩ (FU_lt (by omega))
  rintro i x z hi ⟨rfl, h1, h2⟩
  by_cases c : i < 8
  · have e : z 15 (8 * d + i) = g 15 (8 * d + i) := h2 15 _ (by decide)
    refine Or.inl ⟨c, nI (i + 1), upA z 8 (upd (z 8) i (g 15 (8 * d + i))), ⟨rfl, fun j hj => ?_, fun a j k => by rw [upA_r k]; exact h2 a j k⟩, fun rec => ?_⟩
    · rw [upA_s]
      by_cases k : j = i
      · subst k; rw [pk_us]
      · rw [pk_un k]; exact h1 j (by omega)
    · unfold BX5_restore_2
      simp (disch := omega) only [nm, jn0, jn1, jn2, jn3, jn4, jn5, bnd1_s, bnd2_s, bnd3_s, bnd4_s, lit_n, neg1, chkI_n, chkZ_n, chkC_n, bI_B, chkB_0, chkB_1, bI_t, bI_f, clamp_n, nI_add, subn, remn2, nat_rem, divn, pk_mul, ifle_t, ifle_f, iflt_t, iflt_f, ifeq_t, ifeq_f, ifm_f, ifm_t, if_true, if_false, e]
  · have : i = 8 := by omega
    subst this
    refine Or.inr ⟨some z, ⟨z, rfl, h1, h2⟩, fun rec => ?_⟩
    unfold BX5_restore_2
    simp (disch := omega) only [nm, jn0, jn1, jn2, jn3, jn4, jn5, bnd1_s, bnd2_s, bnd3_s, bnd4_s, lit_n, neg1, chkI_n, chkZ_n, chkC_n, bI_B, chkB_0, chkB_1, bI_t, bI_f, clamp_n, nI_add, subn, remn2, nat_rem, divn, pk_mul, ifle_t, ifle_f, iflt_t, iflt_f, ifeq_t, ifeq_f, ifm_f, ifm_t, if_true, if_false]
theorem r_enter {g : GS} {d : Nat} (hd : d < 6) : ∃ g1, MX5_enter g (nI d) = some g1 ∧ (∀ j, j < 8 → g1 15 (8 * d + j) = g 8 j) ∧ g1 16 d = nI 0 ∧ g1 17 d = nI 0 ∧ (∀ i j, (i = 15 → j < 8 * d) → (i = 16 ∨ i = 17 → j ≠ d) → g1 i j = g i j) := by
  unfold MX5_enter jn1
  refine lq2_rel (fun i x (z : GS) => x = nI i ∧ (∀ j, j < i → z 15 (8 * d + j) = g 8 j) ∧ (∀ i j, (i = 15 → j < 8 * d) → z i j = g i j)) 8 (fun r => ∃ g1 : GS, r = some g1 ∧ (∀ j, j < 8 → g1 15 (8 * d + j) = g 8 j) ∧ g1 16 d = nI 0 ∧ g1 17 d = nI 0 ∧ (∀ i j, (i = 15 → j < 8 * d) → (i = 16 ∨ i = 17 → j ≠ d) → g1 i j = g i j)) ?_ _ _ ⟨rfl, fun j h => absurd h (Nat.not_lt_zero _), fun _ _ _ => rfl⟩ (FU_lt (by omega))
  rintro i x z hi ⟨rfl, h1, h2⟩
  by_cases c : i < 8
  · have e : z 8 i = g 8 i := h2 8 _ (by simp)
    refine Or.inl ⟨c, nI (i + 1), upA z 15 (upd (z 15) (8 * d + i) (g 8 i)), ⟨rfl, fun j hj => ?_, fun a j k => ?_⟩, fun rec => ?_⟩
    · rw [upA_s]
      by_cases k : j = i
      · subst k; rw [pk_us]
      · rw [pk_un (by omega)]; exact h1 j (by omega)
    · by_cases y : a = 15
      · subst y; rw [upA_s, pk_un (by have := k rfl; omega)]; exact h2 15 j k
      · rw [upA_r y]; exact h2 a j k
    · unfold BX5_enter_2
      simp (disch := omega) only [nm, jn0, jn1, jn2, jn3, jn4, jn5, bnd1_s, bnd2_s, bnd3_s, bnd4_s, lit_n, neg1, chkI_n, chkZ_n, chkC_n, bI_B, chkB_0, chkB_1, bI_t, bI_f, clamp_n, nI_add, subn, remn2, nat_rem, divn, pk_mul, ifle_t, ifle_f, iflt_t, iflt_f, ifeq_t, ifeq_f, ifm_f, ifm_t, if_true, if_false, e]
  · have : i = 8 := by omega
    subst this
    refine Or.inr ⟨some (upA (upA z 16 (upd (z 16) d (nI 0))) 17 (upd ((upA z 16 (upd (z 16) d (nI 0))) 17) d (nI 0))), ⟨_, rfl, fun j hj => ?_, ?_, ?_, fun a j k l => ?_⟩, fun rec => ?_⟩
    · rw [upA_r (by decide), upA_r (by decide)]; exact h1 j hj
    · rw [upA_r (by decide), upA_s, pk_us]
    · rw [upA_s, pk_us]
    · by_cases y : a = 17
      · subst y; rw [upA_s, pk_un (l (Or.inr rfl)), upA_r (by decide)]; exact h2 17 j k
      · rw [upA_r y]
        by_cases x : a = 16
        · subst x; rw [upA_s, pk_un (l (Or.inl rfl))]; exact h2 16 j k
        · rw [upA_r x]; exact h2 a j k
    · unfold BX5_enter_2
      simp (disch := omega) only [nm, jn0, jn1, jn2, jn3, jn4, jn5, bnd1_s, bnd2_s, bnd3_s, bnd4_s, lit_n, neg1, chkI_n, chkZ_n, chkC_n, bI_B, chkB_0, chkB_1, bI_t, bI_f, clamp_n, nI_add, subn, remn2, nat_rem, divn, pk_mul, ifle_t, ifle_f, iflt_t, iflt_f, ifeq_t, ifeq_f, ifm_f, ifm_t, if_true, if_false]
def Sv (g : GS) (T : NN) (d : Nat) (P : Nat → Nat) : Prop := ∀ h, h < T 0 1 → g 15 (8 * d + h) = nI (P h)
def fR (d : Nat) (g g' : GS) : Prop := ∀ i j, (i = 0 → j ≠ 32) → i ≠ 8 → i ≠ 13 → (i = 15 → j < 8 * d) → (i = 16 ∨ i = 17 ∨ i = 18 → j < d) → g' i j = g i j
theorem fR.refl {d : Nat} {g : GS} : fR d g g := fun _ _ _ _ _ _ _ => rfl
theorem fR.trans {d : Nat} {g g' g'' : GS} (h : fR d g g') (h' : fR d g' g'') : fR d g g'' := fun i j a b c e f => (h' i j a b c e f).trans (h i j a b c e f)
theorem fR.s {d : Nat} {g g' : GS} (h : fR (d + 1) g g') : fR d g g' := fun i j a b c e f => h i j a b c (fun z => by have := e z; omega) (fun z => by have := f z; omega)
theorem RM.fR {d : Nat} {g g' : GS} {T : NN} (h : RM g T) (f : fR d g g') : RM g' T := h.fT fun i j c => by
  unfold keyR at c
  exact f i j (by omega) (by omega) (by omega) (by omega) (by omega)
/-- where the search stands: house h, way w, at depth d -/
def ST (g : GS) (T : NN) (d : Nat) (P : Nat → Nat) (h w : Nat) : Prop := RM g T ∧ Sv g T d P ∧ g 16 d = nI h ∧ g 17 d = nI w
variable {T : NN} {a b n : Nat} {k5 k7 : GS → Option (Int32 × GS)}
theorem st_E {g : GS} {d : Nat} {P : Nat → Nat} {w : Nat} (hI : IT T) (hd : d < 6) (h : ST g T d P (T 0 1) w) : ∃ g1, fR d g g1 ∧ ∀ rec, BX5_firstRow_29 k5 (nI n) (nI a) (nI b) k7 rec (nI d) g = rec (nI d + (-1 : Int32)) g1 := by
  obtain ⟨hM, hS, h16, h17⟩ := h
  obtain ⟨g1, r1, r2, r3⟩ := r_restore (g := g) hd
  have e16 : g1 16 d = nI (T 0 1) := by rw [r3 _ _ (by decide)]; exact h16
  have e2 : g1 0 2 = nI (T 0 1) := by rw [r3 _ _ (by decide)]; exact hM.1.2.1
  have hcd : (nI d).toNatClampNeg = d := nI_clamp (by omega)
  refine ⟨g1, fun i j p q r s t => r3 i j q, fun rec => ?_⟩
  have c6 : ∀ {β : Type} (k : Option β), chkI (nI d) 6 k = k := fun k => chkI_n (by omega) (by decide)
  unfold BX5_firstRow_29
  rw [if_neg (show ¬ nI d < 0 from fun z => by have := nI_pos' (n := d) (by omega); exact absurd z (Int32.not_lt.mpr this)), r1, bnd1_s, c6]
  simp only [jn1, jn2]
  rw [hcd, e16, e2, if_pos rfl, if_neg (show ¬ (1 : Int32) = 0 by decide), if_neg (show ¬ (1 : Int32) = 0 by decide), nm_c]
/-- restored, and the ways of the house laid -/
theorem st_L {g : GS} {d h w : Nat} {P : Nat → Nat} (hI : IT T) (hP : IP T P) (hd : d < 6) (hh : h < T 0 1) (hS : ST g T d P h w) : ∃ g1 g2, MX5_restore g (nI d) = some g1 ∧ g1 16 d = nI h ∧ g1 0 2 = nI (T 0 1) ∧ MX5_layWays g1 (nI h) = some g2 ∧ fR d g g2 ∧ (∀ j, g2 15 j = g 15 j) ∧ g2 16 d = nI h ∧ g2 17 d = nI w ∧ (∀ q, q < T 0 1 → g2 8 q = nI (P q)) ∧ g2 0 32 = nI (ways T P h).length ∧ (∀ i, i < (ways T P h).length → g2 13 i = nI (wy T P h i)) := by
  obtain ⟨hM, hSv, h16, h17⟩ := hS
  have i2 := hI.1.2.2.1
  obtain ⟨g1, r1, r2, r3⟩ := r_restore (g := g) hd
  have e16 : g1 16 d = nI h := by rw [r3 _ _ (by decide)]; exact h16
  have e2 : g1 0 2 = nI (T 0 1) := by rw [r3 _ _ (by decide)]; exact hM.1.2.1
  have M1 : RM g1 T := hM.fT fun i j c => by unfold keyR at c; exact r3 i j (by omega)
  have P1 : ∀ q, q < T 0 1 → g1 8 q = nI (P q) := fun q hq => by rw [r2 q (by omega)]; exact hSv q hq
  obtain ⟨g2, l1, l2, l3⟩ := r_layWays M1 hI P1 hP.1 hh
  refine ⟨g1, g2, r1, e16, e2, l1, fun i j p q r s t => by rw [l2 i j r p, r3 i j q], fun j => by rw [l2 15 j (by decide) (by simp), r3 _ _ (by decide)], by rw [l2 16 _ (by decide) (by simp)]; exact e16, by rw [l2 17 _ (by decide) (by simp), r3 _ _ (by decide)]; exact h17, fun q hq => by rw [l2 8 q (by decide) (by simp)]; exact P1 q hq, l3.1, fun i hi => ?_⟩
  rw [l3.2 i hi]
  congr 1
  unfold wy
  rw [List.getD_eq_getElem?_getD, List.getElem?_eq_getElem hi]
  rfl
theorem nI_no {x y : Nat} (hx : x < 1000) (hy : y < 1000) (h : x ≠ y) : ¬ nI x = nI y := by
  intro z
  have := congrArg Int32.toNatClampNeg z
  rw [nI_clamp (by omega), nI_clamp (by omega)] at this
  exact h this
theorem nI_not_neg {d : Nat} (h : d < 1000) : ¬ nI d < 0 := fun z => by have := nI_pos' (n := d) (by omega); exact absurd z (Int32.not_lt.mpr this)
theorem st_N {g : GS} {d h : Nat} {P : Nat → Nat} (hI : IT T) (hP : IP T P) (hd : d < 6) (hh : h < T 0 1) (hS : ST g T d P h (ways T P h).length) : ∃ g1, fR d g g1 ∧ ST g1 T d P (h + 1) 0 ∧ ∀ rec, BX5_firstRow_29 k5 (nI n) (nI a) (nI b) k7 rec (nI d) g = rec (nI d) g1 := by
  have i2 := hI.1.2.2.1
  obtain ⟨g1, g2, r1, e16, e2, l1, f, f15, f16, f17, f8, f32, f13⟩ := st_L hI hP hd hh hS
  have hcd : (nI d).toNatClampNeg = d := nI_clamp (by omega)
  have hlen := ways_len (P := P) (h := h) hI
  have c6 : ∀ {β : Type} (k : Option β), chkI (nI d) 6 k = k := fun k => chkI_n (by omega) (by decide)
  have fr : fR d g (upA (upA g2 16 (upd (g2 16) d (nI (h + 1)))) 17 (upd ((upA g2 16 (upd (g2 16) d (nI (h + 1)))) 17) d (nI 0))) := fun i j p q r s t => by
    rw [← f i j p q r s t]
    by_cases y : i = 17
    · subst y; have := t (Or.inr (Or.inl rfl)); rw [upA_s, pk_un (by omega), upA_r (by decide)]
    · rw [upA_r y]
      by_cases x : i = 16
      · subst x; have := t (Or.inl rfl); rw [upA_s, pk_un (by omega)]
      · rw [upA_r x]
  refine ⟨_, fr, ⟨hS.1.fR fr, fun q hq => ?_, ?_, ?_⟩, fun rec => ?_⟩
  · rw [upA_r (by decide), upA_r (by decide), f15]; exact hS.2.1 q hq
  · rw [upA_r (by decide), upA_s, pk_us]
  · rw [upA_s, pk_us]
  · unfold BX5_firstRow_29
    rw [if_neg (nI_not_neg (by omega)), r1, bnd1_s, c6]
    simp only [jn1, jn2]
    rw [hcd, e16, e2, if_neg (nI_no (by omega) (by omega) (by omega)), if_pos trivial, c6, l1, bnd1_s, if_pos trivial, c6, f17, f32, if_neg (nI_nlt (Nat.le_refl _) (by omega)), c6, f16, show nI h + (1 : Int32) = nI (h + 1) from nI_add h 1, nm_c, c6, nm_c, c6, nm_c]
    rfl
theorem st_W {g : GS} {d h w : Nat} {P : Nat → Nat} (hI : IT T) (hP : IP T P) (hd : d < 6) (hh : h < T 0 1) (hw : w < (ways T P h).length) (hS : ST g T d P h w) : ∃ g1, fR d g g1 ∧ ST g1 T d P h (w + 1) ∧ (∀ q, q < T 0 1 → g1 8 q = nI (mvP T P h w q)) ∧ g1 18 d = nI (20 * h + wy T P h w) ∧ ∀ rec, BX5_firstRow_29 k5 (nI n) (nI a) (nI b) k7 rec (nI d) g = if (nI d + (1 : Int32)) = nI n then (bnd1 (MX5_areBeside g1 (nI a) (nI b)) fun (r44 : Int32) => if r44 = 0 then (rec (nI d) g1) else (k7 g1)) else (nm (nI d + 1) fun (x41 : Int32) => bnd1 (MX5_enter g1 x41) fun (mM_42 : GS) => rec x41 mM_42) := by
  have i2 := hI.1.2.2.1
  obtain ⟨g1, g2, r1, e16, e2, l1, f, f15, f16, f17, f8, f32, f13⟩ := st_L hI hP hd hh hS
  have hcd : (nI d).toNatClampNeg = d := nI_clamp (by omega)
  have hch : (nI h).toNatClampNeg = h := nI_clamp (by omega)
  have hlen := ways_len (P := P) (h := h) hI
  have hcw : (nI w).toNatClampNeg = w := nI_clamp (by omega)
  have c6 : ∀ {β : Type} (k : Option β), chkI (nI d) 6 k = k := fun k => chkI_n (by omega) (by decide)
  obtain ⟨v, hv⟩ : ∃ v, v = wy T P h w := ⟨_, rfl⟩
  obtain ⟨m1, hm1⟩ : ∃ m1, m1 = upA g2 18 (upd (g2 18) d (nI (20 * h + v))) := ⟨_, rfl⟩
  obtain ⟨m2, hm2⟩ : ∃ m2, m2 = upA m1 8 (upd (m1 8) h (nI v)) := ⟨_, rfl⟩
  obtain ⟨m3, hm3⟩ : ∃ m3, m3 = upA m2 17 (upd (m2 17) d (nI (w + 1))) := ⟨_, rfl⟩
  have a1 : m1 16 d = nI h := by rw [hm1, upA_r (by decide)]; exact f16
  have a2 : m2 17 d = nI w := by rw [hm2, upA_r (by decide), hm1, upA_r (by decide)]; exact f17
  have fr : fR d g m3 := fun i j p q r s t => by
    rw [← f i j p q r s t, hm3]
    by_cases y : i = 17
    · subst y; have := t (Or.inr (Or.inl rfl)); rw [upA_s, pk_un (by omega), hm2, upA_r (by decide), hm1, upA_r (by decide)]
    · rw [upA_r y, hm2, upA_r q, hm1]
      by_cases x : i = 18
      · subst x; have := t (Or.inr (Or.inr rfl)); rw [upA_s, pk_un (by omega)]
      · rw [upA_r x]
  refine ⟨m3, fr, ⟨hS.1.fR fr, fun q hq => ?_, ?_, ?_⟩, fun q hq => ?_, ?_, fun rec => ?_⟩
  · rw [hm3, upA_r (by decide), hm2, upA_r (by decide), hm1, upA_r (by decide), f15]; exact hS.2.1 q hq
  · rw [hm3, upA_r (by decide), hm2, upA_r (by decide)]; exact a1
  · rw [hm3, upA_s, pk_us]
  · rw [hm3, upA_r (by decide), hm2, upA_s]
    unfold mvP pU
    by_cases c : q = h
    · subst c; rw [pk_us, if_pos rfl, hv]
    · rw [pk_un c, if_neg c, hm1, upA_r (by decide)]; exact f8 q hq
  · rw [hm3, upA_r (by decide), hm2, upA_r (by decide), hm1, upA_s, pk_us, hv]
  · unfold BX5_firstRow_29
    rw [if_neg (nI_not_neg (by omega)), r1, bnd1_s, c6]
    simp only [jn1, jn2]
    have x20 : (20 : Int32) * nI h + nI v = nI (20 * h + v) := by rw [show (20 : Int32) * nI h = nI (20 * h) from pk_mul 20 h]; exact nI_add _ _
    have e13 : g2 13 w = nI v := by rw [f13 w hw, hv]
    rw [hcd, e16, e2, if_neg (nI_no (by omega) (by omega) (by omega)), if_pos trivial, c6, l1, bnd1_s, if_pos trivial, c6, f17, f32, if_pos (nI_lt (by omega) (by omega)), c6, chkI_n (show w < 8 by omega) (by decide), hcw, e13, nm_c, c6, f16, x20, nm_c, c6, nm_c, ← hm1, c6, a1, hch, chkI_n (show h < 19 by omega) (by decide), nm_c, ← hm2, c6, a2, show nI w + (1 : Int32) = nI (w + 1) from nI_add w 1, nm_c, c6, nm_c, ← hm3]
