/-! nights in the class -/
theorem modstep {n m : Nat} (hn : 0 < n) : (m + 1) % n = nx n (m % n) := by
  unfold nx
  have h1 := Nat.div_add_mod m n
  have h2 : m % n < n := Nat.mod_lt _ hn
  have e : m + 1 = n * (m / n) + (m % n + 1) := by omega
  by_cases c : m % n + 1 < n
  · rw [if_pos c, e, Nat.mul_add_mod, Nat.mod_eq_of_lt c]
  · rw [if_neg c, e, show m % n + 1 = n by omega, ← Nat.mul_succ, Nat.mul_mod_right]
theorem isE_len {L : List Nat} : (!L.isEmpty) = decide (0 < L.length) := by cases L <;> simp
theorem p_ways {gS tT : GS} {T S : NN} {B h : Nat} (hT : RT tT T) (hI : IT T) (hR : RS gS T S B) (hS : IS T S) (hB : B < 256) (hh : h < T 0 1) (fR : Nat → Int32) : ∃ f', MX1_findWays gS fR tT (nI h) = some (nI (ways (mk T B) (S 1) h).length, f') ∧ rowOf f' (ways (mk T B) (S 1) h) := by
  have i2 := hI.1.2.2.1
  obtain ⟨r1, r2, r4, r5, r6, r7, r8⟩ := hR
  have hl := hS.1 h hh
  have := p_findWays (gS := gS) hT hI (r1 h hh) hl r4 (IS_oc hI hS).2 r8 hB (h := h) (by omega) fR
  unfold ways
  rw [mk_oc, mk_r (by decide)]
  exact this
theorem ways_len {T : NN} {P : Nat → Nat} {h : Nat} (hI : IT T) : (ways T P h).length ≤ 8 := wayF_len hI
theorem IT_mk {T : NN} {B : Nat} (hI : IT T) : IT (mk T B) := by
  obtain ⟨a, b, c, d, e, f, g⟩ := hI
  refine ⟨?_, fun q hq => ?_, fun h hh => ?_, fun h hh => ?_, fun k hk => ?_, fun k hk => ?_, ?_⟩
  · simpa only [mk_r (T := T) (B := B) (i := 0) (by decide)] using a
  · rw [mk_r (by decide)]; exact b q hq
  · have := c h hh
    unfold mk
    split
    · split <;> omega
    · omega
  · rw [mk_r (by decide)] at hh ⊢
    rw [mk_r (by decide)]
    exact d h hh
  · rw [mk_r (by decide)] at hk
    simp only [mk_r (T := T) (B := B) (i := 0) (by decide), mk_r (T := T) (B := B) (i := 4) (by decide), mk_r (T := T) (B := B) (i := 5) (by decide)]
    exact e k hk
  · rw [mk_r (by decide)] at hk
    simp only [mk_r (T := T) (B := B) (i := 0) (by decide), mk_r (T := T) (B := B) (i := 6) (by decide), mk_r (T := T) (B := B) (i := 7) (by decide)]
    exact f k hk
  · have e3 : mk T B 3 = T 3 := by funext j; exact mk_r (by decide)
    rw [e3]
    exact mk_dsj.mpr g
theorem p_hasWayTo {gS tT : GS} {T S : NN} {B h q : Nat} (hT : RT tT T) (hI : IT T) (hR : RS gS T S B) (hS : IS T S) (hB : B < 256) (hh : h < T 0 1) (hq : q < T 0 0) (fR : Nat → Int32) : ∃ f', MX1_hasWayTo gS fR tT (nI h) (nI q) = some (bI (decide (q ∈ ways (mk T B) (S 1) h)), f') := by
  have i1 := hI.1.2.1
  obtain ⟨f', hf, hr⟩ := p_ways hT hI hR hS hB hh fR
  have hl := ways_len (P := S 1) (h := h) (IT_mk (B := B) hI)
  have hw : ∀ e, e ∈ ways (mk T B) (S 1) h → e < T 0 0 := by
    intro e he
    have := (mem_wayF (T := mk T B) (IT_mk hI) (by rw [mk_r (by decide)]; exact hS.1 h hh) he).2.1
    rwa [mk_r (by decide)] at this
  generalize ways (mk T B) (S 1) h = W at *
  unfold MX1_hasWayTo
  rw [hf]
  simp only [bnd2_s, jn0]
  refine ⟨f', ?_⟩
  refine lq1_rel (fun i x => x = nI i ∧ ∀ j (hj : j < W.length), j < i → W[j] ≠ q) W.length (fun r => r = some (bI (decide (q ∈ W)), f')) ?_ _ ⟨rfl, fun j hj h => absurd h (Nat.not_lt_zero _)⟩ (FU_lt (by omega))
  rintro i x hi ⟨rfl, hg⟩
  by_cases c : i < W.length
  · have e := hr i c
    have hv := hw W[i] (List.getElem_mem c)
    by_cases d : W[i] = q
    · refine Or.inr ⟨_, rfl, fun rec => ?_⟩
      have : decide (q ∈ W) = true := by simpa [← d] using List.getElem_mem c
      unfold BX1_hasWayTo_13
      simp (disch := omega) only [nm, jn0, jn1, jn2, jn3, jn4, jn5, bnd1_s, bnd2_s, bnd3_s, bnd4_s, lit_n, neg1, chkI_n, chkZ_n, chkC_n, bI_B, chkB_0, chkB_1, bI_t, bI_f, clamp_n, nI_add, subn, remn2, nat_rem, divn, pk_mul, ifle_t, ifle_f, iflt_t, iflt_f, ifeq_t, ifeq_f, ifm_f, ifm_t, if_true, if_false, e, this]
    · refine Or.inl ⟨c, nI (i + 1), ⟨rfl, fun j hj hji => ?_⟩, fun rec => ?_⟩
      · by_cases k : j = i
        · subst k; exact d
        · exact hg j hj (by omega)
      · unfold BX1_hasWayTo_13
        simp (disch := omega) only [nm, jn0, jn1, jn2, jn3, jn4, jn5, bnd1_s, bnd2_s, bnd3_s, bnd4_s, lit_n, neg1, chkI_n, chkZ_n, chkC_n, bI_B, chkB_0, chkB_1, bI_t, bI_f, clamp_n, nI_add, subn, remn2, nat_rem, divn, pk_mul, ifle_t, ifle_f, iflt_t, iflt_f, ifeq_t, ifeq_f, ifm_f, ifm_t, if_true, if_false, e]
  · refine Or.inr ⟨_, rfl, fun rec => ?_⟩
    have : decide (q ∈ W) = false := by
      simp only [decide_eq_false_iff_not]
      intro z
      obtain ⟨j, hj, e⟩ := List.getElem_of_mem z
      exact hg j hj (by omega) e
    unfold BX1_hasWayTo_13
    simp (disch := omega) only [nm, jn0, jn1, jn2, jn3, jn4, jn5, bnd1_s, bnd2_s, bnd3_s, bnd4_s, lit_n, neg1, chkI_n, chkZ_n, chkC_n, bI_B, chkB_0, chkB_1, bI_t, bI_f, clamp_n, nI_add, subn, remn2, nat_rem, divn, pk_mul, ifle_t, ifle_f, iflt_t, iflt_f, ifeq_t, ifeq_f, ifm_f, ifm_t, if_true, if_false, this]
theorem p_passNightOf {gS tT : GS} {T S : NN} {B h q law : Nat} (hT : RT tT T) (hI : IT T) (hR : RS gS T S B) (hS : IS T S) (hN : S 0 5 < 100000) (hlaw : law ≤ 3) (hh : h < T 0 1) (hq : q < T 0 0) : ∃ g', MX1_passNightOf gS tT (nI h) (nI q) (nI law) = some g' ∧ RS g' T (rolT T S h q law) B := by
  have i2 := hI.1.2.2.1
  obtain ⟨r1, r2, r4, r5, r6, r7, r8⟩ := hR
  have t1 := hT.1.2.1
  unfold MX1_passNightOf
  simp (disch := omega) only [nm, jn0, jn1, jn2, jn3, jn4, jn5, bnd1_s, bnd2_s, bnd3_s, bnd4_s, lit_n, neg1, chkI_n, chkZ_n, chkC_n, bI_B, chkB_0, chkB_1, bI_t, bI_f, clamp_n, nI_add, subn, remn2, nat_rem, divn, pk_mul, ifle_t, ifle_f, iflt_t, iflt_f, ifeq_t, ifeq_f, ifm_f, ifm_t, if_true, if_false, r5]
  have a1 : ∀ a, a < T 0 1 → (up2 gS 0 5 (nI (S 0 5 + 1))) 1 a = nI (S 1 a) := fun a ha => by rw [up2_r (by decide)]; exact r1 a ha
  obtain ⟨g1, m0, m1, m4, mj, m2⟩ := p_moveHouse (gS := up2 gS 0 5 (nI (S 0 5 + 1))) hT hI a1 hS.1 (by rw [up2_n (by decide)]; exact r4) hS.2.1 hh hq
  have m5 : g1 0 5 = nI (S 0 5 + 1) := by rw [mj 5 (by decide), up2_s]
  have m6 : g1 0 6 = nI (S 0 6) := by rw [mj 6 (by decide), up2_n (by decide)]; exact r6
  have m7 : g1 0 7 = nI (S 0 7) := by rw [mj 7 (by decide), up2_n (by decide)]; exact r7
  have m8 : g1 0 8 = nI B := by rw [mj 8 (by decide), up2_n (by decide)]; exact r8
  have m2' : ∀ a, a < T 0 1 → g1 2 a = nI (S 2 a) := fun a ha => by rw [m2, up2_r (by decide)]; exact r2 a ha
  rw [m0]
  have e1 := rolT_1 (T := T) (S := S) (h := h) (q := q) (law := law)
  by_cases c : law = 1
  · subst c
    by_cases d : h + 1 < T 0 1
    · have en : nx (T 0 1) h = h + 1 := if_pos d
      simp (disch := omega) only [nm, jn0, jn1, jn2, jn3, jn4, jn5, bnd1_s, bnd2_s, bnd3_s, bnd4_s, lit_n, neg1, chkI_n, chkZ_n, chkC_n, bI_B, chkB_0, chkB_1, bI_t, bI_f, clamp_n, nI_add, subn, remn2, nat_rem, divn, pk_mul, ifle_t, ifle_f, iflt_t, iflt_f, ifeq_t, ifeq_f, ifm_f, ifm_t, if_true, if_false, m5, t1]
      refine ⟨_, rfl, fun a ha => ?_, fun a ha => ?_, ?_, ?_, ?_, ?_, ?_⟩
      · rw [e1]; simp (disch := omega) only [up2_s, up2_r, up2_n, upA_s, upA_r, pk_us, pk_un, cpy_n]; exact m1 a ha
      · simp (disch := omega) only [up2_s, up2_r, up2_n, upA_s, upA_r, pk_us, pk_un, cpy_n]; rw [upd_n (m2' a ha)]; simp [rolT, rol, tU]
      · rw [e1]; simp (disch := omega) only [up2_s, up2_r, up2_n, upA_s, upA_r, pk_us, pk_un, cpy_n]; exact m4
      · simp (disch := omega) only [up2_s, up2_r, up2_n, upA_s, upA_r, pk_us, pk_un, cpy_n]; simp [rolT, rol, tU, m5]
      · simp (disch := omega) only [up2_s, up2_r, up2_n, upA_s, upA_r, pk_us, pk_un, cpy_n]; simp [rolT, rol, tU, en]
      · simp (disch := omega) only [up2_s, up2_r, up2_n, upA_s, upA_r, pk_us, pk_un, cpy_n]; simp [rolT, rol, tU, m7]
      · simp (disch := omega) only [up2_s, up2_r, up2_n, upA_s, upA_r, pk_us, pk_un, cpy_n]; exact m8
    · have en : nx (T 0 1) h = 0 := if_neg d
      simp (disch := omega) only [nm, jn0, jn1, jn2, jn3, jn4, jn5, bnd1_s, bnd2_s, bnd3_s, bnd4_s, lit_n, neg1, chkI_n, chkZ_n, chkC_n, bI_B, chkB_0, chkB_1, bI_t, bI_f, clamp_n, nI_add, subn, remn2, nat_rem, divn, pk_mul, ifle_t, ifle_f, iflt_t, iflt_f, ifeq_t, ifeq_f, ifm_f, ifm_t, if_true, if_false, m5, t1]
      refine ⟨_, rfl, fun a ha => ?_, fun a ha => ?_, ?_, ?_, ?_, ?_, ?_⟩
      · rw [e1]; simp (disch := omega) only [up2_s, up2_r, up2_n, upA_s, upA_r, pk_us, pk_un, cpy_n]; exact m1 a ha
      · simp (disch := omega) only [up2_s, up2_r, up2_n, upA_s, upA_r, pk_us, pk_un, cpy_n]; rw [upd_n (m2' a ha)]; simp [rolT, rol, tU]
      · rw [e1]; simp (disch := omega) only [up2_s, up2_r, up2_n, upA_s, upA_r, pk_us, pk_un, cpy_n]; exact m4
      · simp (disch := omega) only [up2_s, up2_r, up2_n, upA_s, upA_r, pk_us, pk_un, cpy_n]; simp [rolT, rol, tU, m5]
      · simp (disch := omega) only [up2_s, up2_r, up2_n, upA_s, upA_r, pk_us, pk_un, cpy_n]; simp [rolT, rol, tU, en]
      · simp (disch := omega) only [up2_s, up2_r, up2_n, upA_s, upA_r, pk_us, pk_un, cpy_n]; simp [rolT, rol, tU, m7]
      · simp (disch := omega) only [up2_s, up2_r, up2_n, upA_s, upA_r, pk_us, pk_un, cpy_n]; exact m8
  · simp (disch := omega) only [nm, jn0, jn1, jn2, jn3, jn4, jn5, bnd1_s, bnd2_s, bnd3_s, bnd4_s, lit_n, neg1, chkI_n, chkZ_n, chkC_n, bI_B, chkB_0, chkB_1, bI_t, bI_f, clamp_n, nI_add, subn, remn2, nat_rem, divn, pk_mul, ifle_t, ifle_f, iflt_t, iflt_f, ifeq_t, ifeq_f, ifm_f, ifm_t, if_true, if_false, m5]
    refine ⟨_, rfl, fun a ha => ?_, fun a ha => ?_, ?_, ?_, ?_, ?_, ?_⟩
    · rw [e1]; simp (disch := omega) only [up2_s, up2_r, up2_n, upA_s, upA_r, pk_us, pk_un, cpy_n]; exact m1 a ha
    · simp (disch := omega) only [up2_s, up2_r, up2_n, upA_s, upA_r, pk_us, pk_un, cpy_n]; rw [upd_n (m2' a ha)]; simp [rolT, rol, tU, c]
    · rw [e1]; simp (disch := omega) only [up2_s, up2_r, up2_n, upA_s, upA_r, pk_us, pk_un, cpy_n]; exact m4
    · simp (disch := omega) only [up2_s, up2_r, up2_n, upA_s, upA_r, pk_us, pk_un, cpy_n]; simp [rolT, rol, tU, c, m5]
    · simp (disch := omega) only [up2_s, up2_r, up2_n, upA_s, upA_r, pk_us, pk_un, cpy_n]; simp [rolT, rol, tU, c, m6]
    · simp (disch := omega) only [up2_s, up2_r, up2_n, upA_s, upA_r, pk_us, pk_un, cpy_n]; simp [rolT, rol, tU, c, m7]
    · simp (disch := omega) only [up2_s, up2_r, up2_n, upA_s, upA_r, pk_us, pk_un, cpy_n]; exact m8
theorem row_g {f' : Nat → Int32} {L : List Nat} {i : Nat} (hr : rowOf f' L) (h : i < L.length) : f' i = nI (L.getD i 0) := by
  rw [hr i h, List.getD_eq_getElem?_getD, List.getElem?_eq_getElem h]
  rfl
theorem way_lt {T S : NN} {B h i : Nat} (hI : IT T) (hS : IS T S) (hh : h < T 0 1) (hi : i < (ways (mk T B) (S 1) h).length) : (ways (mk T B) (S 1) h).getD i 0 < T 0 0 := by
  have := (mem_wayF (T := mk T B) (IT_mk hI) (by rw [mk_r (by decide)]; exact hS.1 h hh) (getD_mem hi)).2.1
  rwa [mk_r (by decide)] at this
/-- the roll of a night: 20 times the house, and its first way -/
def rlO (T : NN) (P : Nat → Nat) (o : Option Nat) : Int32 := match o with
  | some h => nI (20 * h + (ways T P h).getD 0 0)
  | none => mI
theorem p_firstFrom {gS tT : GS} {T S : NN} {B u : Nat} (hT : RT tT T) (hI : IT T) (hR : RS gS T S B) (hS : IS T S) (hB : B < 256) (hu : u = 0 ∨ u < T 0 1) (fW : Nat → Int32) : ∃ f', MX1_firstFrom gS fW tT (nI u) = some (rlO (mk T B) (S 1) (fsH (mk T B) S u), f') := by
  have i2 := hI.1.2.2.1
  have t1 := hT.1.2.1
  have n1 : mk T B 0 1 = T 0 1 := mk_r (by decide)
  unfold MX1_firstFrom
  simp only [jn1, jn2]
  refine lq3_rel (fun i x y (f : Nat → Int32) => x = nI ((u + i) % T 0 1) ∧ y = nI i ∧ ∀ j, j < i → hasW (mk T B) (S 1) ((u + j) % T 0 1) = false) (T 0 1) (fun r => ∃ f', r = some (rlO (mk T B) (S 1) (fsH (mk T B) S u), f')) ?_ _ _ _ ⟨?_, rfl, fun j h => absurd h (Nat.not_lt_zero _)⟩ (FU_lt (by omega))
  · rintro i x y f hi ⟨rfl, rfl, hg⟩
    by_cases c : i < T 0 1
    · have hc : (u + i) % T 0 1 < T 0 1 := Nat.mod_lt _ (by omega)
      obtain ⟨f', hf, hr⟩ := p_ways hT hI hR hS hB hc f
      have hl := ways_len (P := S 1) (h := (u + i) % T 0 1) (IT_mk (B := B) hI)
      cases e : hasW (mk T B) (S 1) ((u + i) % T 0 1) with
      | true =>
        have h0 := hasW_0 e
        have e0 := row_g hr h0
        refine Or.inr ⟨_, ⟨f', rfl⟩, fun rec => ?_⟩
        have : fsH (mk T B) S u = some ((u + i) % T 0 1) := by
          unfold fsH
          rw [n1, fst1_some.mpr ⟨c, e, hg⟩]
          rfl
        unfold BX1_firstFrom_4
        rw [this]
        simp (disch := omega) only [nm, jn0, jn1, jn2, jn3, jn4, jn5, bnd1_s, bnd2_s, bnd3_s, bnd4_s, lit_n, neg1, chkI_n, chkZ_n, chkC_n, bI_B, chkB_0, chkB_1, bI_t, bI_f, clamp_n, nI_add, subn, remn2, nat_rem, divn, pk_mul, ifle_t, ifle_f, iflt_t, iflt_f, ifeq_t, ifeq_f, ifm_f, ifm_t, if_true, if_false, t1, hf, rlO, e0]
      | false =>
        have h0 : (ways (mk T B) (S 1) ((u + i) % T 0 1)).length = 0 := by
          unfold hasW at e
          rw [isE_len] at e
          simpa using e
        have hm := modstep (n := T 0 1) (m := u + i) (by omega)
        refine Or.inl ⟨c, nI ((u + (i + 1)) % T 0 1), nI (i + 1), f', ⟨rfl, rfl, fun j hj => ?_⟩, fun rec => ?_⟩
        · by_cases k : j = i
          · subst k; exact e
          · exact hg j (by omega)
        · unfold BX1_firstFrom_4
          rw [← Nat.add_assoc, hm]
          unfold nx
          by_cases d : (u + i) % T 0 1 + 1 < T 0 1
          · simp (disch := omega) only [nm, jn0, jn1, jn2, jn3, jn4, jn5, bnd1_s, bnd2_s, bnd3_s, bnd4_s, lit_n, neg1, chkI_n, chkZ_n, chkC_n, bI_B, chkB_0, chkB_1, bI_t, bI_f, clamp_n, nI_add, subn, remn2, nat_rem, divn, pk_mul, ifle_t, ifle_f, iflt_t, iflt_f, ifeq_t, ifeq_f, ifm_f, ifm_t, if_true, if_false, t1, hf, h0, if_pos d]
          · simp (disch := omega) only [nm, jn0, jn1, jn2, jn3, jn4, jn5, bnd1_s, bnd2_s, bnd3_s, bnd4_s, lit_n, neg1, chkI_n, chkZ_n, chkC_n, bI_B, chkB_0, chkB_1, bI_t, bI_f, clamp_n, nI_add, subn, remn2, nat_rem, divn, pk_mul, ifle_t, ifle_f, iflt_t, iflt_f, ifeq_t, ifeq_f, ifm_f, ifm_t, if_true, if_false, t1, hf, h0, if_neg d]
    · refine Or.inr ⟨_, ⟨f, rfl⟩, fun rec => ?_⟩
      have : fsH (mk T B) S u = none := by
        unfold fsH
        rw [n1, fst1_none.mpr (fun j hj => hg j (by omega))]
        rfl
      unfold BX1_firstFrom_4
      rw [this]
      simp (disch := omega) only [nm, jn0, jn1, jn2, jn3, jn4, jn5, bnd1_s, bnd2_s, bnd3_s, bnd4_s, lit_n, neg1, chkI_n, chkZ_n, chkC_n, bI_B, chkB_0, chkB_1, bI_t, bI_f, clamp_n, nI_add, subn, remn2, nat_rem, divn, pk_mul, ifle_t, ifle_f, iflt_t, iflt_f, ifeq_t, ifeq_f, ifm_f, ifm_t, if_true, if_false, t1, rlO]
  · rcases hu with rfl | hu
    · simp
    · rw [Nat.add_zero, Nat.mod_eq_of_lt hu]
theorem p_longestRested {gS tT : GS} {T S : NN} {B : Nat} (hT : RT tT T) (hI : IT T) (hR : RS gS T S B) (hS : IS T S) (hN : S 0 5 < 100000) (hB : B < 256) (fW : Nat → Int32) : ∃ f', MX1_longestRested gS fW tT = some (rlO (mk T B) (S 1) (rst (mk T B) S (T 0 1)), f') := by
  have i2 := hI.1.2.2.1
  have t1 := hT.1.2.1
  have r2 := hR.2.1
  have s5 := hS.2.2.2.2
  unfold MX1_longestRested
  simp only [jn2]
  refine lq4_rel (fun i x v y (f : Nat → Int32) => x = oI (rst (mk T B) S i) ∧ v = rlO (mk T B) (S 1) (rst (mk T B) S i) ∧ y = nI i) (T 0 1) (fun r => ∃ f', r = some (rlO (mk T B) (S 1) (rst (mk T B) S (T 0 1)), f')) ?_ _ _ _ _ ⟨rfl, rfl, rfl⟩ (FU_lt (by omega))
  rintro i x v y f hi ⟨rfl, rfl, rfl⟩
  by_cases c : i < T 0 1
  · obtain ⟨f', hf, hr⟩ := p_ways hT hI hR hS hB c f
    have hl := ways_len (P := S 1) (h := i) (IT_mk (B := B) hI)
    have hw : hasW (mk T B) (S 1) i = decide (0 < (ways (mk T B) (S 1) i).length) := isE_len
    have hb : rst (mk T B) S (i + 1) = match rst (mk T B) S i with
      | none => if hasW (mk T B) (S 1) i = true then some i else none
      | some b => if S 2 i < S 2 b ∧ hasW (mk T B) (S 1) i = true then some i else some b := rfl
    have ri := r2 i c
    have si := s5 i c
    cases e : rst (mk T B) S i with
    | none =>
      rw [e] at hb
      by_cases d : 0 < (ways (mk T B) (S 1) i).length
      · have e0 := row_g hr d
        refine Or.inl ⟨c, nI i, nI (20 * i + (ways (mk T B) (S 1) i).getD 0 0), nI (i + 1), f', ⟨by rw [hb, hw]; simp [d, oI], by rw [hb, hw]; simp [d, rlO], rfl⟩, fun rec => ?_⟩
        unfold BX1_longestRested_6
        simp (disch := omega) only [nm, jn0, jn1, jn2, jn3, jn4, jn5, bnd1_s, bnd2_s, bnd3_s, bnd4_s, lit_n, neg1, chkI_n, chkZ_n, chkC_n, bI_B, chkB_0, chkB_1, bI_t, bI_f, clamp_n, nI_add, subn, remn2, nat_rem, divn, pk_mul, ifle_t, ifle_f, iflt_t, iflt_f, ifeq_t, ifeq_f, ifm_f, ifm_t, if_true, if_false, t1, hf, oI, rlO, e0]
      · refine Or.inl ⟨c, mI, mI, nI (i + 1), f', ⟨by rw [hb, hw]; simp [d, oI], by rw [hb, hw]; simp [d, rlO], rfl⟩, fun rec => ?_⟩
        unfold BX1_longestRested_6
        simp (disch := omega) only [nm, jn0, jn1, jn2, jn3, jn4, jn5, bnd1_s, bnd2_s, bnd3_s, bnd4_s, lit_n, neg1, chkI_n, chkZ_n, chkC_n, bI_B, chkB_0, chkB_1, bI_t, bI_f, clamp_n, nI_add, subn, remn2, nat_rem, divn, pk_mul, ifle_t, ifle_f, iflt_t, iflt_f, ifeq_t, ifeq_f, ifm_f, ifm_t, if_true, if_false, t1, hf, oI, rlO]
    | some b =>
      rw [e] at hb
      have hbl := (rst_lt e).1
      have rb := r2 b (by omega)
      have sb := s5 b (by omega)
      by_cases k : S 2 i < S 2 b
      · by_cases d : 0 < (ways (mk T B) (S 1) i).length
        · have e0 := row_g hr d
          refine Or.inl ⟨c, nI i, nI (20 * i + (ways (mk T B) (S 1) i).getD 0 0), nI (i + 1), f', ⟨by rw [hb, hw]; simp [d, k, oI], by rw [hb, hw]; simp [d, k, rlO], rfl⟩, fun rec => ?_⟩
          unfold BX1_longestRested_6
          simp (disch := omega) only [nm, jn0, jn1, jn2, jn3, jn4, jn5, bnd1_s, bnd2_s, bnd3_s, bnd4_s, lit_n, neg1, chkI_n, chkZ_n, chkC_n, bI_B, chkB_0, chkB_1, bI_t, bI_f, clamp_n, nI_add, subn, remn2, nat_rem, divn, pk_mul, ifle_t, ifle_f, iflt_t, iflt_f, ifeq_t, ifeq_f, ifm_f, ifm_t, if_true, if_false, t1, hf, oI, rlO, ri, rb, e0]
        · refine Or.inl ⟨c, nI b, nI (20 * b + (ways (mk T B) (S 1) b).getD 0 0), nI (i + 1), f', ⟨by rw [hb, hw]; simp [d, k, oI], by rw [hb, hw]; simp [d, k, rlO], rfl⟩, fun rec => ?_⟩
          unfold BX1_longestRested_6
          simp (disch := omega) only [nm, jn0, jn1, jn2, jn3, jn4, jn5, bnd1_s, bnd2_s, bnd3_s, bnd4_s, lit_n, neg1, chkI_n, chkZ_n, chkC_n, bI_B, chkB_0, chkB_1, bI_t, bI_f, clamp_n, nI_add, subn, remn2, nat_rem, divn, pk_mul, ifle_t, ifle_f, iflt_t, iflt_f, ifeq_t, ifeq_f, ifm_f, ifm_t, if_true, if_false, t1, hf, oI, rlO, ri, rb]
      · refine Or.inl ⟨c, nI b, nI (20 * b + (ways (mk T B) (S 1) b).getD 0 0), nI (i + 1), f, ⟨by rw [hb, hw]; simp [k, oI], by rw [hb, hw]; simp [k, rlO], rfl⟩, fun rec => ?_⟩
        unfold BX1_longestRested_6
        simp (disch := omega) only [nm, jn0, jn1, jn2, jn3, jn4, jn5, bnd1_s, bnd2_s, bnd3_s, bnd4_s, lit_n, neg1, chkI_n, chkZ_n, chkC_n, bI_B, chkB_0, chkB_1, bI_t, bI_f, clamp_n, nI_add, subn, remn2, nat_rem, divn, pk_mul, ifle_t, ifle_f, iflt_t, iflt_f, ifeq_t, ifeq_f, ifm_f, ifm_t, if_true, if_false, t1, hf, oI, rlO, ri, rb]
  · have : i = T 0 1 := by omega
    subst this
    refine Or.inr ⟨_, ⟨f, rfl⟩, fun rec => ?_⟩
    unfold BX1_longestRested_6
    simp (disch := omega) only [nm, jn0, jn1, jn2, jn3, jn4, jn5, bnd1_s, bnd2_s, bnd3_s, bnd4_s, lit_n, neg1, chkI_n, chkZ_n, chkC_n, bI_B, chkB_0, chkB_1, bI_t, bI_f, clamp_n, nI_add, subn, remn2, nat_rem, divn, pk_mul, ifle_t, ifle_f, iflt_t, iflt_f, ifeq_t, ifeq_f, ifm_f, ifm_t, if_true, if_false, t1]
