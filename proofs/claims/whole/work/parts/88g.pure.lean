/-! nearest -/
theorem r_firstRow {g : GS} {T : NN} {P : Nat → Nat} {a b n : Nat} (hM : RM g T) (hI : IT T) (h8 : ∀ h, h < T 0 1 → g 8 h = nI (P h)) (hP : IP T P) (ha : a < T 0 1) (hb : b < T 0 1) (hn : n ≤ 5) : ∃ r m', MX5_firstRow g (nI a) (nI b) (nI n) = some (r, m') ∧ fR 0 g m' ∧ (rc T a b true n P = false → r = mI) ∧ (rc T a b true n P = true → r = if n = 0 then nI 999 else nI (rl T a b true (n - 1) P)) := by
  have i2 := hI.1.2.2.1
  unfold MX5_firstRow
  by_cases c : n = 0
  · subst c
    have hbs := r_areBeside hM hI h8 hP.1 ha hb
    rw [if_pos (show nI 0 = 0 from rfl), hbs, bnd1_s]
    simp only [jn1]
    cases e : bes T P a b with
    | true =>
      rw [bI_t, if_neg (show ¬ nI 1 = 0 by decide)]
      exact ⟨_, _, rfl, fR.refl, fun z => (by have z' : bes T P a b = false := z; rw [e] at z'; cases z'), fun _ => rfl⟩
    | false =>
      rw [bI_f, if_pos (show nI 0 = 0 from rfl)]
      exact ⟨_, _, rfl, fR.refl, fun _ => rfl, fun z => (by have z' : bes T P a b = true := z; rw [e] at z'; cases z')⟩
  · obtain ⟨m, rfl⟩ : ∃ m, n = m + 1 := ⟨n - 1, by omega⟩
    obtain ⟨g2, t1, t2, t3, t4, t5⟩ := r_enter (g := g) (d := 0) (by decide)
    rw [if_neg (show ¬ nI (m + 1) = 0 from nI_no (y := 0) (by omega) (by decide) (by omega)), show (0 : Int32) = nI 0 from rfl, t1, bnd1_s]
    simp only [jn1]
    have f0 : fR 0 g g2 := fun i j p q r s t => t5 i j s (fun v => by have := t (by omega); omega)
    have S0 : ST g2 T 0 P 0 0 := ⟨hM.fR f0, fun q hq => by rw [t2 q (by omega)]; exact h8 q hq, t3, t4⟩
    have hfu : cst (m + 1) ≤ FU - 1 := by
      have h5 : m = 0 ∨ m = 1 ∨ m = 2 ∨ m = 3 ∨ m = 4 := by omega
      have := FU_ge
      rcases h5 with rfl | rfl | rfl | rfl | rfl <;> simp only [cst] <;> omega
    rcases sub_all (k5 := fun mM_4 => some (-1, mM_4)) (k7 := fun mM_6 => chkI (nI 0) 6 (some (mM_6 18 (nI 0).toNatClampNeg, mM_6))) hI ha hb hn m (Nat.le_refl _) 0 (by omega) g2 P FU hP S0 (by omega) with ⟨c, g', u1, u2, u3⟩ | ⟨c, g', f', u1, u2, u3⟩
    · unfold FB at u1
      rw [u1]
      dsimp only
      rw [chkI_n (show 0 < 6 by decide) (by decide)]
      refine ⟨_, g', rfl, f0.trans u2, fun z => (by rw [c] at z; cases z), fun _ => ?_⟩
      rw [if_neg (by omega)]
      exact u3
    · unfold FB at u1
      have := FU_ge
      have hcb : cst (m + 1) < FU := by omega
      obtain ⟨q, rfl⟩ : ∃ q, f' = q + 1 := ⟨f' - 1, by omega⟩
      rw [u1]
      have e0 : nI 0 + (-1 : Int32) = (-1 : Int32) := by decide
      rw [e0]
      refine ⟨-1, g', ?_, f0.trans u3, fun _ => rfl, fun z => (by rw [c] at z; cases z)⟩
      have el : ∀ (B : (Int32 → GS → Option (Int32 × GS)) → Int32 → GS → Option (Int32 × GS)) (x : Int32) (z : GS), lq2 B (q + 1) x z = B (lq2 B q) x z := fun _ _ _ => rfl
      rw [el]
      unfold BX5_firstRow_29
      rw [if_pos (by decide)]
def ansN (T : NN) (a b : Nat) (P : Nat → Nat) (w : Nat) : Int32 := match fst1 (fun n => rc T a b true n P) 6 with
  | none => mI
  | some n => if w = 0 then nI n else if n = 0 then mI else nI (rl T a b true (n - 1) P)
theorem rl_lt {T : NN} {P : Nat → Nat} {a b n : Nat} (hI : IT T) (hP : IP T P) : rl T a b true n P < 200 := by
  have i2 := hI.1.2.2.1
  have i1 := hI.1.2.1
  unfold rl
  cases c : hsF T a b true n P with
  | none => show 0 < 200; decide
  | some h =>
    have hh := fst1_lt c
    show (match wyF T a b true n P h with | none => 0 | some i => 20 * h + wy T P h i) < 200
    cases e : wyF T a b true n P h with
    | none => show 0 < 200; decide
    | some i =>
      have := wy_lt hI hP hh (fst1_lt e)
      show 20 * h + wy T P h i < 200
      omega
theorem r_putBack2 {mM g : GS} (h : bks mM g) : ∃ m', MX5_putBack g = some m' ∧ fFs mM m' ∧ bks mM m' := by
  obtain ⟨f', hf, h1, h2⟩ := r_copy (n1 := 19) (n2 := 19) (a := 0) (b := 0) (f1 := g 9) (f2 := g 8) (by decide) (by decide) (by decide) (by decide)
  unfold MX5_putBack
  simp (disch := omega) only [nm, jn0, jn1, jn2, jn3, jn4, jn5, bnd1_s, bnd2_s, bnd3_s, bnd4_s, lit_n, neg1, chkI_n, chkZ_n, chkC_n, bI_B, chkB_0, chkB_1, bI_t, bI_f, clamp_n, nI_add, subn, remn2, nat_rem, divn, pk_mul, ifle_t, ifle_f, iflt_t, iflt_f, ifeq_t, ifeq_f, ifm_f, ifm_t, if_true, if_false, hf, up2_s, up2_r, up2_n, upA_s, upA_r, pk_us, pk_un, cpy_n]
  have fc : fCs mM (upA g 8 f') := fun i j c => by
    have := h.1 i j c
    unfold core at c
    rw [upA_r (by omega)]; exact this
  refine ⟨_, rfl, ⟨fc, fun j hj => ?_⟩, ⟨fc, fun j hj => ?_⟩⟩
  · rw [upA_s]
    have := h1 j hj
    rw [Nat.zero_add] at this
    rw [this, h.2 j hj]
  · rw [upA_r (by decide)]; exact h.2 j hj
theorem IS.ip {T S : NN} (h : IS T S) : IP T (S 1) := ⟨h.1, h.2.1⟩
theorem r_nearest {tT gN mM : GS} {T S : NN} (hB : BV tT gN mM T S) {a b w : Nat} (ha : a < T 0 1) (hb : b < T 0 1) (hw : w ≤ 1) (h1 : MX5_whyNot mM (nI a) (nI b) (nI 1) = some (nI 0)) (h2 : MX5_in (nI w) (nI 0) (nI 1) = some (nI 1)) : ∃ m', MX5_nearest mM (nI a) (nI b) (nI w) = some (ansN T a b (S 1) w, m') ∧ fFs mM m' := by
  obtain ⟨hT, hI, hR, hS, hNb, hM, hN⟩ := hB
  obtain ⟨m1, a1, a2, a3, a4⟩ := r_putAside mM
  have hIP := hS.ip
  unfold MX5_nearest
  rw [show (0 : Int32) = nI 0 from rfl, show (1 : Int32) = nI 1 from rfl, h2, bnd1_s, h1, bnd1_s, if_pos rfl, a1, bnd1_s]
  simp only [jn1, jn3, jn0]
  obtain ⟨p, hp⟩ : ∃ p, p = fun n => rc T a b true n (S 1) := ⟨_, rfl⟩
  refine lq4_rel (fun i (x y z : Int32) (g : GS) => z = nI i ∧ fFs mM g ∧ bks mM g ∧ ((x = mI ∧ fst1 p i = none) ∨ ∃ q, q < i ∧ fst1 p i = some q ∧ x = nI q ∧ y = if q = 0 then nI 999 else nI (rl T a b true (q - 1) (S 1)))) 6 (fun r => ∃ m', r = some (ansN T a b (S 1) w, m') ∧ fFs mM m') ?_ _ _ _ _ ⟨rfl, ⟨a2.1, fun j _ => a3 j⟩, a2, Or.inl ⟨rfl, rfl⟩⟩ (FU_lt (by omega))
  rintro i x y z g hi ⟨rfl, hf, hk, hv⟩
  have M : RM g T := hM.fC hf.1
  have N : RN g T S := hN.row hI hf.2
  have found : ∀ q, q < 6 → fst1 p 6 = some q → ∃ r : Int32, ansN T a b (S 1) w = r ∧ (if nI q = (-1 : Int32) then (some (nI q, g) : Option (Int32 × GS)) else if nI w = nI 0 then some (nI q, g) else if (if q = 0 then nI 999 else nI (rl T a b true (q - 1) (S 1))) = (999 : Int32) then some (-1, g) else some ((if q = 0 then nI 999 else nI (rl T a b true (q - 1) (S 1))), g)) = some (r, g) := by
    intro q hq hs
    have nq : ¬ nI q = (-1 : Int32) := fun z => (nI_m1 (by omega)).mp z
    rw [hp] at hs
    unfold ansN
    rw [hs, if_neg nq]
    by_cases c : w = 0
    · subst c
      exact ⟨_, rfl, by rw [if_pos rfl]; rfl⟩
    · have : w = 1 := by omega
      subst this
      rw [if_neg (show ¬ nI 1 = nI 0 by decide)]
      refine ⟨_, rfl, ?_⟩
      show _ = some ((if 1 = 0 then nI q else if q = 0 then mI else nI (rl T a b true (q - 1) (S 1))), g)
      rw [if_neg (show ¬ (1 : Nat) = 0 by decide)]
      by_cases d : q = 0
      · rw [if_pos d, if_pos d, if_pos (show nI 999 = (999 : Int32) from rfl)]; rfl
      · rw [if_neg d, if_neg d]
        have hl := rl_lt (a := a) (b := b) (n := q - 1) hI hIP
        rw [if_neg (show ¬ nI (rl T a b true (q - 1) (S 1)) = (999 : Int32) from nI_no (y := 999) (by omega) (by decide) (by omega))]
  by_cases c : i < 6
  · rcases hv with ⟨rfl, hn⟩ | ⟨q, hq, hs, rfl, rfl⟩
    · obtain ⟨r, m', v1, v2, v3, v4⟩ := r_firstRow (n := i) M hI N.1 hIP ha hb (by omega)
      have hk' : bks mM m' := ⟨fun i j c => by
        rw [v2 i j (by unfold core at c; omega) (by unfold core at c; omega) (by unfold core at c; omega) (by unfold core at c; omega) (by unfold core at c; omega)]; exact hf.1 i j c, fun j hj => by rw [v2 9 j (by simp) (by decide) (by decide) (by simp) (by simp)]; exact hk.2 j hj⟩
      obtain ⟨m2, u1, u2, u3⟩ := r_putBack2 hk'
      have hs := fst1_s0 hn
      cases e : rc T a b true i (S 1) with
      | true =>
        have hr := v4 e
        have pe : p i = true := by rw [hp]; exact e
        rw [if_pos pe] at hs
        have rn : ¬ r = (-1 : Int32) := by
          rw [hr]
          split
          · decide
          · have hl := rl_lt (a := a) (b := b) (n := i - 1) hI hIP
            exact fun z => (nI_m1 (by omega)).mp z
        refine Or.inl ⟨c, nI i, r, nI (i + 1), m2, ⟨rfl, u2, u3, Or.inr ⟨i, by omega, hs, rfl, hr⟩⟩, fun rec => ?_⟩
        unfold BX5_nearest_35
        simp only [jn1]
        rw [if_neg (show ¬ (6 : Int32) ≤ nI i from fun z => absurd ((nI_leI (a := 6) (by omega) (by omega)).1 z) (by omega)), if_pos (show mI = (-1 : Int32) from rfl), v1, bnd2_s, u1, bnd1_s, if_neg rn, show nI i + (1 : Int32) = nI (i + 1) from nI_add i 1, nm_c]
      | false =>
        have hr := v3 e
        have pe : ¬ p i = true := by rw [hp]; show ¬ rc T a b true i (S 1) = true; rw [e]; decide
        rw [if_neg pe] at hs
        refine Or.inl ⟨c, mI, r, nI (i + 1), m2, ⟨rfl, u2, u3, Or.inl ⟨rfl, hs⟩⟩, fun rec => ?_⟩
        unfold BX5_nearest_35
        simp only [jn1]
        rw [if_neg (show ¬ (6 : Int32) ≤ nI i from fun z => absurd ((nI_leI (a := 6) (by omega) (by omega)).1 z) (by omega)), if_pos (show mI = (-1 : Int32) from rfl), v1, bnd2_s, u1, bnd1_s, if_pos (show r = (-1 : Int32) from hr), show nI i + (1 : Int32) = nI (i + 1) from nI_add i 1, nm_c]
        rfl
    · obtain ⟨r, e1, e2⟩ := found q (by omega) (fst1_mono hs (by omega))
      refine Or.inr ⟨_, ⟨g, rfl, hf⟩, fun rec => ?_⟩
      unfold BX5_nearest_35
      rw [if_neg (show ¬ (6 : Int32) ≤ nI i from fun z => absurd ((nI_leI (a := 6) (by omega) (by omega)).1 z) (by omega)), if_neg (show ¬ nI q = (-1 : Int32) from fun z => (nI_m1 (by omega)).mp z), e1]
      exact e2
  · have : i = 6 := by omega
    subst this
    rcases hv with ⟨rfl, hn⟩ | ⟨q, hq, hs, rfl, rfl⟩
    · refine Or.inr ⟨_, ⟨g, rfl, hf⟩, fun rec => ?_⟩
      unfold BX5_nearest_35
      rw [if_pos (show (6 : Int32) ≤ nI 6 by decide)]
      dsimp only
      rw [if_pos neg1.symm]
      unfold ansN
      rw [hp] at hn
      rw [hn]
    · obtain ⟨r, e1, e2⟩ := found q (by omega) hs
      refine Or.inr ⟨_, ⟨g, rfl, hf⟩, fun rec => ?_⟩
      unfold BX5_nearest_35
      rw [if_pos (show (6 : Int32) ≤ nI 6 by decide), e1]
      exact e2
