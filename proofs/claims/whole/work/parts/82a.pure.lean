/-! ===== the standing ===== -/
/-- the told, some stuck ones taken as narrow -/
def mk (T : NN) (B : Nat) : NN := fun i j => if i = 2 then (if T 2 j = 2 ∧ B.testBit j = true then 0 else T 2 j) else T i j
theorem mk_0 {T : NN} : mk T 0 = T := by
  funext i j
  unfold mk
  by_cases c : i = 2
  · subst c; simp
  · simp [c]
theorem mk_r {T : NN} {B i j : Nat} (h : i ≠ 2) : mk T B i j = T i j := by simp [mk, h]
theorem mk_3 {T : NN} {B h : Nat} : (mk T B 2 h == 3) = (T 2 h == 3) := by
  unfold mk
  by_cases c : T 2 h = 2 ∧ B.testBit h = true
  · simp [c]
  · simp [c]
theorem mk_gr {T : NN} {B h p q : Nat} : gr p (mk T B 2 h) q = gr p (T 2 h) q := by
  have := mk_3 (T := T) (B := B) (h := h)
  unfold gr
  by_cases c : T 2 h = 3
  · have : mk T B 2 h = 3 := by rw [c] at this; simpa using this
    rw [if_pos c, if_pos this]
  · have : ¬ mk T B 2 h = 3 := fun z => by rw [z] at this; exact c (by simpa using this.symm)
    rw [if_neg c, if_neg this]
theorem mk_oc {T : NN} {B : Nat} {P : Nat → Nat} : ∀ {n : Nat}, ocN (mk T B) P n = ocN T P n := by
  intro n
  induction n with
  | zero => rfl
  | succ n ih => unfold ocN; rw [ih, mk_gr, mk_r (by decide)]
theorem mk_sOn {T : NN} {B h q : Nat} {P : Nat → Nat} : sOn (mk T B) P h q = sOn T P h q := by
  unfold sOn
  rw [mk_3, mk_r (by decide)]
theorem mk_dsj {T : NN} {B : Nat} {P : Nat → Nat} : dsj (mk T B) P ↔ dsj T P := by
  unfold dsj
  simp only [mk_sOn, mk_r (T := T) (B := B) (i := 0) (by decide)]
/-- the class's standing holds S; B: the houses taken as narrow -/
def RS (gS : GS) (T S : NN) (B : Nat) : Prop := (∀ h, h < T 0 1 → gS 1 h = nI (S 1 h)) ∧ (∀ h, h < T 0 1 → gS 2 h = nI (S 2 h)) ∧ gS 0 4 = nI (ocN T (S 1) (T 0 1)) ∧ gS 0 5 = nI (S 0 5) ∧ gS 0 6 = nI (S 0 6) ∧ gS 0 7 = nI (S 0 7) ∧ gS 0 8 = nI B
def IS (T S : NN) : Prop := (∀ h, h < T 0 1 → S 1 h < T 0 0) ∧ dsj T (S 1) ∧ (S 0 6 = 0 ∨ S 0 6 < T 0 1) ∧ S 0 7 < 65521 ∧ (∀ h, h < T 0 1 → S 2 h ≤ S 0 5)
theorem IS_mk {T S : NN} {B : Nat} : IS (mk T B) S ↔ IS T S := by
  unfold IS
  simp only [mk_dsj, mk_r (T := T) (B := B) (i := 0) (by decide)]
theorem IS_oc {T S : NN} (hI : IT T) (h : IS T S) : ocN T (S 1) (T 0 1) < 2 ^ T 0 0 ∧ ocN T (S 1) (T 0 1) < 4097 := by
  have := ocN_lt h.1
  have := two_12 hI.1.2.1
  exact ⟨ocN_lt h.1, by omega⟩
def wayP (T : NN) (O q : Nat) : Nat → List Nat
  | 0 => []
  | k + 1 => wayP T O q k ++ (match pEn T k q with
    | none => []
    | some e => if O.testBit e = true then [] else [e])
def wayF (T : NN) (O q h : Nat) : List Nat := if T 2 h = 2 then [] else (if O.testBit (if T 2 h = 3 then nx (T 0 0) (nx (T 0 0) q) else nx (T 0 0) q) = true then [] else [nx (T 0 0) q]) ++ ((if O.testBit (pv (T 0 0) q) = true then [] else [pv (T 0 0) q]) ++ (if T 2 h = 1 then wayP T O q (T 0 2) else []))
def ways (T : NN) (P : Nat → Nat) (h : Nat) : List Nat := wayF T (ocN T P (T 0 1)) (P h) h
theorem wayP_len {T : NN} {O q : Nat} : ∀ {k : Nat}, (wayP T O q k).length ≤ k := by
  intro k
  induction k with
  | zero => exact Nat.le_refl _
  | succ k ih =>
    unfold wayP
    rw [List.length_append]
    have : (match pEn T k q with
      | none => ([] : List Nat)
      | some e => if O.testBit e = true then [] else [e]).length ≤ 1 := by
      split
      · simp
      · split <;> simp
    omega
theorem wayF_len {T : NN} (hI : IT T) {O q h : Nat} : (wayF T O q h).length ≤ 8 := by
  have i6 := hI.1.2.2.2.1
  have := wayP_len (T := T) (O := O) (q := q) (k := T 0 2)
  unfold wayF
  split
  · simp
  · rw [List.length_append, List.length_append]
    have e1 : ∀ (c : Prop) [Decidable c] (x : Nat), (if c then ([] : List Nat) else [x]).length ≤ 1 := by
      intro c _ x
      split <;> simp
    have a1 := e1 (O.testBit (if T 2 h = 3 then nx (T 0 0) (nx (T 0 0) q) else nx (T 0 0) q) = true) (nx (T 0 0) q)
    have a2 := e1 (O.testBit (pv (T 0 0) q) = true) (pv (T 0 0) q)
    have a3 : (if T 2 h = 1 then wayP T O q (T 0 2) else []).length ≤ 6 := by
      by_cases c : T 2 h = 1
      · rw [if_pos c]; omega
      · rw [if_neg c]; exact Nat.zero_le _
    omega
theorem mem_if1 {c : Prop} {d : Decidable c} {x q : Nat} (h : q ∈ (@ite _ c d ([] : List Nat) [x])) : ¬ c ∧ q = x := by
  split at h
  · cases h
  · exact ⟨by assumption, by simpa using h⟩
theorem mem_wayP {T : NN} {O q e : Nat} : ∀ {k : Nat}, e ∈ wayP T O q k → ∃ i, i < k ∧ pEn T i q = some e ∧ O.testBit e = false := by
  intro k
  induction k with
  | zero => intro h; cases h
  | succ k ih =>
    intro h
    unfold wayP at h
    rcases List.mem_append.mp h with h | h
    · obtain ⟨i, h1, h2⟩ := ih h
      exact ⟨i, by omega, h2⟩
    · split at h
      · cases h
      · rename_i e' he
        obtain ⟨h1, h2⟩ := mem_if1 h
        subst h2
        exact ⟨k, by omega, he, by simpa using h1⟩
theorem mem_wayF {T : NN} (hI : IT T) {O q h e : Nat} (hq : q < T 0 0) (he : e ∈ wayF T O q h) : T 2 h ≠ 2 ∧ e < T 0 0 ∧ ((e = nx (T 0 0) q ∧ O.testBit (if T 2 h = 3 then nx (T 0 0) (nx (T 0 0) q) else nx (T 0 0) q) = false) ∨ (e = pv (T 0 0) q ∧ O.testBit e = false) ∨ (T 2 h ≠ 3 ∧ O.testBit e = false)) := by
  unfold wayF at he
  split at he
  · cases he
  · rename_i c
    refine ⟨c, ?_⟩
    rcases List.mem_append.mp he with he | he
    · obtain ⟨h1, h2⟩ := mem_if1 he
      subst h2
      exact ⟨nx_lt (by omega), Or.inl ⟨rfl, by simpa using h1⟩⟩
    · rcases List.mem_append.mp he with he | he
      · obtain ⟨h1, h2⟩ := mem_if1 he
        subst h2
        exact ⟨pv_lt hq, Or.inr (Or.inl ⟨rfl, by simpa using h1⟩)⟩
      · split at he
        · rename_i c1
          obtain ⟨i, h1, h2, h3⟩ := mem_wayP he
          exact ⟨pEn_lt hI h1 h2, Or.inr (Or.inr ⟨by omega, h3⟩)⟩
        · cases he
theorem p_groundOf {gS tT : GS} {T : NN} (hT : RT tT T) (hI : IT T) {h q : Nat} (hh : h < 8) (hg : gS 1 h = nI q) (hq : q < T 0 0) : MX1_groundOf gS tT (nI h) = some (nI (gr (T 0 0) (T 2 h) q)) := by
  have g := p_ground hT hI (hI.2.2.1 h hh) hq
  have h2 := hT.2.2.1 h hh
  unfold MX1_groundOf
  simp (disch := omega) only [nm, jn0, jn1, jn2, jn3, jn4, jn5, bnd1_s, bnd2_s, bnd3_s, bnd4_s, lit_n, neg1, chkI_n, chkZ_n, chkC_n, bI_B, chkB_0, chkB_1, bI_t, bI_f, clamp_n, nI_add, subn, remn2, nat_rem, divn, pk_mul, ifle_t, ifle_f, iflt_t, iflt_f, ifeq_t, ifeq_f, ifm_f, ifm_t, if_true, if_false, h2, hg, g]
theorem p_isEmpty {gS : GS} {O q : Nat} (h4 : gS 0 4 = nI O) (hO : O < 4097) (hq : q < 31) : MX1_isEmpty gS (nI q) = some (bI (!O.testBit q)) := by
  unfold MX1_isEmpty
  simp only [jn1, lit_n, h4]
  rw [bit_n hq (by omega)]
  cases O.testBit q
  · simp (disch := omega) only [nm, jn0, jn1, jn2, jn3, jn4, jn5, bnd1_s, bnd2_s, bnd3_s, bnd4_s, lit_n, neg1, chkI_n, chkZ_n, chkC_n, bI_B, chkB_0, chkB_1, bI_t, bI_f, clamp_n, nI_add, subn, remn2, nat_rem, divn, pk_mul, ifle_t, ifle_f, iflt_t, iflt_f, ifeq_t, ifeq_f, ifm_f, ifm_t, if_true, if_false, Bool.not_false]
  · simp (disch := omega) only [nm, jn0, jn1, jn2, jn3, jn4, jn5, bnd1_s, bnd2_s, bnd3_s, bnd4_s, lit_n, neg1, chkI_n, chkZ_n, chkC_n, bI_B, chkB_0, chkB_1, bI_t, bI_f, clamp_n, nI_add, subn, remn2, nat_rem, divn, pk_mul, ifle_t, ifle_f, iflt_t, iflt_f, ifeq_t, ifeq_f, ifm_f, ifm_t, if_true, if_false, Bool.not_true]
theorem p_findPathWays {gS tT : GS} {T : NN} (hT : RT tT T) (hI : IT T) {O q : Nat} (h4 : gS 0 4 = nI O) (hO : O < 4097) (hq : q < T 0 0) {f : Nat → Int32} {L : List Nat} (hL : L.length ≤ 2) (hf : rowOf f L) : ∃ f', MX1_findPathWays gS f tT (nI q) (nI L.length) = some (nI (L ++ wayP T O q (T 0 2)).length, f') ∧ rowOf f' (L ++ wayP T O q (T 0 2)) := by
  have i1 := hI.1.2.1
  have i6 := hI.1.2.2.2.1
  have h2 := hT.1.2.2.1
  unfold MX1_findPathWays jn2
  refine lq3_rel (fun i x y (g : Nat → Int32) => x = nI (L ++ wayP T O q i).length ∧ y = nI i ∧ rowOf g (L ++ wayP T O q i)) (T 0 2) (fun r => ∃ f', r = some (nI (L ++ wayP T O q (T 0 2)).length, f') ∧ rowOf f' (L ++ wayP T O q (T 0 2))) ?_ _ _ _ ⟨by simp [wayP], rfl, by simpa [wayP] using hf⟩ (FU_lt (by omega))
  rintro i x y g hi ⟨rfl, rfl, hg⟩
  by_cases c : i < T 0 2
  · have hl : (L ++ wayP T O q i).length ≤ 7 := by
      have := wayP_len (T := T) (O := O) (q := q) (k := i)
      rw [List.length_append]; omega
    have ho := p_otherEnd hT hI c (q := q) (by omega)
    refine Or.inl ⟨c, ?_⟩
    cases e : pEn T i q with
    | none =>
      rw [e] at ho
      refine ⟨nI (L ++ wayP T O q i).length, nI (i + 1), g, ⟨by simp [wayP, e], rfl, by simpa [wayP, e] using hg⟩, fun rec => ?_⟩
      unfold BX1_findPathWays_6
      simp (disch := omega) only [nm, jn0, jn1, jn2, jn3, jn4, jn5, bnd1_s, bnd2_s, bnd3_s, bnd4_s, lit_n, neg1, chkI_n, chkZ_n, chkC_n, bI_B, chkB_0, chkB_1, bI_t, bI_f, clamp_n, nI_add, subn, remn2, nat_rem, divn, pk_mul, ifle_t, ifle_f, iflt_t, iflt_f, ifeq_t, ifeq_f, ifm_f, ifm_t, if_true, if_false, h2, ho, oI]
    | some v =>
      rw [e] at ho
      have hv := pEn_lt hI c e
      have hE := p_isEmpty (gS := gS) h4 hO (q := v) (by omega)
      cases b : O.testBit v with
      | true =>
        rw [b] at hE
        refine ⟨nI (L ++ wayP T O q i).length, nI (i + 1), g, ⟨by simp [wayP, e, b], rfl, by simpa [wayP, e, b] using hg⟩, fun rec => ?_⟩
        unfold BX1_findPathWays_6
        simp (disch := omega) only [nm, jn0, jn1, jn2, jn3, jn4, jn5, bnd1_s, bnd2_s, bnd3_s, bnd4_s, lit_n, neg1, chkI_n, chkZ_n, chkC_n, bI_B, chkB_0, chkB_1, bI_t, bI_f, clamp_n, nI_add, subn, remn2, nat_rem, divn, pk_mul, ifle_t, ifle_f, iflt_t, iflt_f, ifeq_t, ifeq_f, ifm_f, ifm_t, if_true, if_false, h2, ho, oI, hE, Bool.not_true]
      | false =>
        rw [b] at hE
        refine ⟨nI ((L ++ wayP T O q i).length + 1), nI (i + 1), upd g (L ++ wayP T O q i).length (nI v), ⟨by simp [wayP, e, b, Nat.add_assoc], rfl, by simpa [wayP, e, b] using rowOf_add (e := v) hg⟩, fun rec => ?_⟩
        unfold BX1_findPathWays_6
        simp (disch := omega) only [nm, jn0, jn1, jn2, jn3, jn4, jn5, bnd1_s, bnd2_s, bnd3_s, bnd4_s, lit_n, neg1, chkI_n, chkZ_n, chkC_n, bI_B, chkB_0, chkB_1, bI_t, bI_f, clamp_n, nI_add, subn, remn2, nat_rem, divn, pk_mul, ifle_t, ifle_f, iflt_t, iflt_f, ifeq_t, ifeq_f, ifm_f, ifm_t, if_true, if_false, h2, ho, oI, hE, Bool.not_false]
  · have : i = T 0 2 := by omega
    subst this
    refine Or.inr ⟨some (nI (L ++ wayP T O q (T 0 2)).length, g), ⟨g, rfl, hg⟩, fun rec => ?_⟩
    unfold BX1_findPathWays_6
    simp (disch := omega) only [nm, jn0, jn1, jn2, jn3, jn4, jn5, bnd1_s, bnd2_s, bnd3_s, bnd4_s, lit_n, neg1, chkI_n, chkZ_n, chkC_n, bI_B, chkB_0, chkB_1, bI_t, bI_f, clamp_n, nI_add, subn, remn2, nat_rem, divn, pk_mul, ifle_t, ifle_f, iflt_t, iflt_f, ifeq_t, ifeq_f, ifm_f, ifm_t, if_true, if_false, h2]
