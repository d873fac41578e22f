/-! round -/
def fi (K : Nat → Nat) (j : Nat) : Option Nat := fst1 (fun i => decide (K i = K j)) j
def rd (K : Nat → Nat) : Option Nat := fst1 (fun j => (fi K j).isSome) 501
/-- the answer: what 0, 1 -/
def rdA (K : Nat → Nat) (w : Nat) : Int32 := match rd K with
  | none => mI
  | some j => match fi K j with
    | none => mI
    | some i => if w = 0 then nI i else nI (j - i)
theorem fi_lt {K : Nat → Nat} {j i : Nat} (h : fi K j = some i) : i < j := fst1_lt h
theorem p_firstNight {lP : Nat → Int64} {K : Nat → Nat} {j : Nat} (hj : j ≤ 500) (hb : ∀ i, K i < 18446744073709551616) (hP : ∀ i, i < j → lP i = lN (K i)) : MX4_firstNightWith lP (lN (K j)) (nI j) = some (oI (fi K j)) := by
  unfold MX4_firstNightWith
  simp only [jn0, jn1]
  refine lq1_rel (fun i x => x = nI i ∧ fst1 (fun i => decide (K i = K j)) i = none) j (fun r => r = some (oI (fi K j))) ?_ _ ⟨rfl, rfl⟩ (FU_lt (by omega))
  rintro i x hi ⟨rfl, hn⟩
  by_cases c : i < j
  · have e := hP i c
    have hs := fst1_s0 hn
    have hinj := lN_inj (hb i) (hb j)
    by_cases d : K i = K j
    · have e2 := fst1_mono (m := j) (hs.trans (if_pos (decide_eq_true d))) (by omega)
      refine Or.inr ⟨_, rfl, fun rec => ?_⟩
      unfold BX4_firstNightWith_3 fi
      rw [e2]
      have : lN (K i) = lN (K j) := hinj.mpr d
      simp (disch := omega) only [nm, jn0, jn1, jn2, jn3, jn4, jn5, bnd1_s, bnd2_s, bnd3_s, bnd4_s, lit_n, neg1, chkI_n, chkZ_n, chkC_n, bI_B, chkB_0, chkB_1, bI_t, bI_f, clamp_n, nI_add, subn, remn2, nat_rem, divn, pk_mul, ifle_t, ifle_f, iflt_t, iflt_f, ifeq_t, ifeq_f, ifm_f, ifm_t, if_true, if_false, e, iflc_t this, oI]
    · refine Or.inl ⟨c, nI (i + 1), ⟨rfl, by rw [hs, decide_eq_false d]; simp⟩, fun rec => ?_⟩
      unfold BX4_firstNightWith_3
      have : ¬ lN (K i) = lN (K j) := fun z => d (hinj.mp z)
      simp (disch := omega) only [nm, jn0, jn1, jn2, jn3, jn4, jn5, bnd1_s, bnd2_s, bnd3_s, bnd4_s, lit_n, neg1, chkI_n, chkZ_n, chkC_n, bI_B, chkB_0, chkB_1, bI_t, bI_f, clamp_n, nI_add, subn, remn2, nat_rem, divn, pk_mul, ifle_t, ifle_f, iflt_t, iflt_f, ifeq_t, ifeq_f, ifm_f, ifm_t, if_true, if_false, e, iflc_f this]
  · have : i = j := by omega
    subst this
    refine Or.inr ⟨_, rfl, fun rec => ?_⟩
    unfold BX4_firstNightWith_3 fi
    rw [hn]
    simp (disch := omega) only [nm, jn0, jn1, jn2, jn3, jn4, jn5, bnd1_s, bnd2_s, bnd3_s, bnd4_s, lit_n, neg1, chkI_n, chkZ_n, chkC_n, bI_B, chkB_0, chkB_1, bI_t, bI_f, clamp_n, nI_add, subn, remn2, nat_rem, divn, pk_mul, ifle_t, ifle_f, iflt_t, iflt_f, ifeq_t, ifeq_f, ifm_f, ifm_t, if_true, if_false, oI]
theorem c_round {tT gN mM : GS} {T S : NN} (hB : BV tT gN mM T S) (gA : GS) (fA : Nat → Int32) (lP : Nat → Int64) {w : Nat} (hw : w ≤ 1) : ∃ gA' fA' lP', MX4_round tT gN gA fA lP (nI w) = some (rdA (fun j => stK T (T 0 4) (nights T (T 0 4) S j)) w, gA', fA', lP') := by
  obtain ⟨hT, hI, hR, hS, hNb, hM, hN⟩ := hB
  have i3 := hI.1.2.2.2.2.2.1
  have t4 := hT.1.2.2.2.2.1
  obtain ⟨g0, hc, hcR⟩ := p_copyS (gS := gA) hI hR
  obtain ⟨K, hK⟩ : ∃ K : Nat → Nat, K = fun j => stK T (T 0 4) (nights T (T 0 4) S j) := ⟨_, rfl⟩
  have hb : ∀ i, K i < 18446744073709551616 := fun i => by rw [hK]; exact stK_b hI (nights_IS hI hS)
  rw [← hK]
  unfold MX4_round
  simp (disch := omega) only [nm, jn0, jn1, jn2, jn3, jn4, jn5, bnd1_s, bnd2_s, bnd3_s, bnd4_s, lit_n, neg1, chkI_n, chkZ_n, chkC_n, bI_B, chkB_0, chkB_1, bI_t, bI_f, clamp_n, nI_add, subn, remn2, nat_rem, divn, pk_mul, ifle_t, ifle_f, iflt_t, iflt_f, ifeq_t, ifeq_f, ifm_f, ifm_t, if_true, if_false, hc]
  refine lq4_rel (fun i x (g : GS) (f : Nat → Int32) (l : Nat → Int64) => x = nI i ∧ RS g T (nights T (T 0 4) S i) 0 ∧ (∀ k, k < i → l k = lN (K k)) ∧ fst1 (fun j => (fi K j).isSome) i = none) 501 (fun r => ∃ gA' fA' lP', r = some (rdA K w, gA', fA', lP')) ?_ _ _ _ _ ⟨rfl, hcR, fun k h => absurd h (Nat.not_lt_zero _), rfl⟩ (FU_lt (by omega))
  rintro i x g f l hi ⟨rfl, hg, hl, hn⟩
  have hSi := nights_IS (law := T 0 4) (t := i) hI hS
  by_cases c : i < 501
  · have hk := p_stateKey hT hI hg hSi (law := T 0 4) (by rw [nights_N]; omega) i3
    rw [show stK T (T 0 4) (nights T (T 0 4) S i) = K i by rw [hK]] at hk
    have hf := p_firstNight (lP := l) (K := K) (j := i) (by omega) hb hl
    have hs := fst1_s0 hn
    cases e : fi K i with
    | some v =>
      rw [e] at hf hs
      have hv := fi_lt e
      have e2 := fst1_mono (m := 501) (hs.trans (if_pos rfl)) (by omega)
      refine Or.inr ⟨_, ⟨g, f, l, rfl⟩, fun rec => ?_⟩
      unfold BX4_round_25 rdA rd
      rw [e2]
      simp only [e]
      by_cases z : w = 0
      · simp (disch := omega) only [nm, jn0, jn1, jn2, jn3, jn4, jn5, bnd1_s, bnd2_s, bnd3_s, bnd4_s, lit_n, neg1, chkI_n, chkZ_n, chkC_n, bI_B, chkB_0, chkB_1, bI_t, bI_f, clamp_n, nI_add, subn, remn2, nat_rem, divn, pk_mul, ifle_t, ifle_f, iflt_t, iflt_f, ifeq_t, ifeq_f, ifm_f, ifm_t, if_true, if_false, t4, hk, hf, oI, if_pos z]
      · simp (disch := omega) only [nm, jn0, jn1, jn2, jn3, jn4, jn5, bnd1_s, bnd2_s, bnd3_s, bnd4_s, lit_n, neg1, chkI_n, chkZ_n, chkC_n, bI_B, chkB_0, chkB_1, bI_t, bI_f, clamp_n, nI_add, subn, remn2, nat_rem, divn, pk_mul, ifle_t, ifle_f, iflt_t, iflt_f, ifeq_t, ifeq_f, ifm_f, ifm_t, if_true, if_false, t4, hk, hf, oI, if_neg z]
    | none =>
      rw [e] at hf hs
      obtain ⟨g', f', e1, e2⟩ := p_n0 hT hI hg hSi (by rw [nights_N]; omega) i3 f
      refine Or.inl ⟨c, nI (i + 1), g', f', vp_updL l i (lN (K i)), ⟨rfl, e2, fun k hk => ?_, by rw [hs]; simp⟩, fun rec => ?_⟩
      · by_cases z : k = i
        · subst z; exact pk_uLs
        · rw [pk_uLn z]; exact hl k (by omega)
      · unfold BX4_round_25
        simp (disch := omega) only [nm, jn0, jn1, jn2, jn3, jn4, jn5, bnd1_s, bnd2_s, bnd3_s, bnd4_s, lit_n, neg1, chkI_n, chkZ_n, chkC_n, bI_B, chkB_0, chkB_1, bI_t, bI_f, clamp_n, nI_add, subn, remn2, nat_rem, divn, pk_mul, ifle_t, ifle_f, iflt_t, iflt_f, ifeq_t, ifeq_f, ifm_f, ifm_t, if_true, if_false, t4, hk, hf, oI, e1]
  · have : i = 501 := by omega
    subst this
    refine Or.inr ⟨_, ⟨g, f, l, rfl⟩, fun rec => ?_⟩
    unfold BX4_round_25 rdA rd
    rw [hn]
    simp (disch := omega) only [nm, jn0, jn1, jn2, jn3, jn4, jn5, bnd1_s, bnd2_s, bnd3_s, bnd4_s, lit_n, neg1, chkI_n, chkZ_n, chkC_n, bI_B, chkB_0, chkB_1, bI_t, bI_f, clamp_n, nI_add, subn, remn2, nat_rem, divn, pk_mul, ifle_t, ifle_f, iflt_t, iflt_f, ifeq_t, ifeq_f, ifm_f, ifm_t, if_true, if_false]
/-- a state, as the reference lays it down -/
def sv (T : NN) (law : Nat) (S : NN) (c : Nat) : Nat := if c < 8 then (if c < T 0 1 then S 1 c else 0) else if c = 8 then (if law = 1 then S 0 6 else 0) else if c < 17 then (if c - 9 < T 0 1 ∧ law = 2 then rnk T S (c - 9) else 0) else (if law = 3 then S 0 7 else 0)
theorem sv_b {T S : NN} {law c : Nat} (hI : IT T) (hS : IS T S) : sv T law S c < 100000 := by
  have i2 := hI.1.2.2.1
  have i1 := hI.1.2.1
  unfold sv
  split
  · split
    · have := hS.1 c (by assumption); omega
    · omega
  · split
    · split
      · have := hS.2.2.1; omega
      · omega
    · split
      · split
        · rename_i z
          have := rnk_lt (S := S) hI z.1; omega
        · omega
      · split
        · have := hS.2.2.2.1; omega
        · omega
theorem sv_iff {T S S' : NN} {law : Nat} (hI : IT T) (hS : IS T S) (hS' : IS T S') (hlaw : law ≤ 3) : (∀ c, c < 18 → sv T law S c = sv T law S' c) ↔ stK T law S = stK T law S' := by
  have i2 := hI.1.2.2.1
  have i1 := hI.1.2.1
  have pin := pkk_inj (P := S 1) (P' := S' 1) (n := T 0 1) (fun h hh => by have := hS.1 h hh; omega) (fun h hh => by have := hS'.1 h hh; omega)
  have rin := rk_inj (S := S) (S' := S') (a := pkk (S 1) (T 0 1)) (a' := pkk (S' 1) (T 0 1)) hI (Nat.le_refl _)
  have s6 := hS.2.2.1
  have s6' := hS'.2.2.1
  have s7 := hS.2.2.2.1
  have s7' := hS'.2.2.2.1
  constructor
  · intro h
    have hp : pkk (S 1) (T 0 1) = pkk (S' 1) (T 0 1) := pin.mpr fun a ha => by
      have := h a (by omega)
      unfold sv at this
      rw [if_pos (by omega), if_pos ha, if_pos (by omega), if_pos ha] at this
      exact this
    unfold stK
    by_cases c1 : law = 1
    · have := h 8 (by decide)
      unfold sv at this
      rw [if_neg (by decide), if_pos rfl, if_pos c1, if_neg (by decide), if_pos rfl, if_pos c1] at this
      rw [if_pos c1, if_pos c1, hp, this]
    · rw [if_neg c1, if_neg c1]
      by_cases c2 : law = 2
      · rw [if_pos c2, if_pos c2]
        refine rin.mpr ⟨hp, fun a ha => ?_⟩
        have := h (9 + a) (by omega)
        unfold sv at this
        rw [if_neg (by omega), if_neg (by omega), if_pos (by omega), if_pos ⟨by omega, c2⟩, if_neg (by omega), if_neg (by omega), if_pos (by omega), if_pos ⟨by omega, c2⟩, show 9 + a - 9 = a by omega] at this
        exact this
      · rw [if_neg c2, if_neg c2]
        by_cases c3 : law = 3
        · have := h 17 (by decide)
          unfold sv at this
          rw [if_neg (by decide), if_neg (by decide), if_neg (by decide), if_pos c3, if_neg (by decide), if_neg (by decide), if_neg (by decide), if_pos c3] at this
          rw [if_pos c3, if_pos c3, hp, this]
        · rw [if_neg c3, if_neg c3, hp]
  · intro h
    have key : pkk (S 1) (T 0 1) = pkk (S' 1) (T 0 1) ∧ (law = 1 → S 0 6 = S' 0 6) ∧ (law = 2 → ∀ a, a < T 0 1 → rnk T S a = rnk T S' a) ∧ (law = 3 → S 0 7 = S' 0 7) := by
      unfold stK at h
      by_cases c1 : law = 1
      · rw [if_pos c1, if_pos c1] at h
        refine ⟨by omega, fun _ => by omega, fun z => by omega, fun z => by omega⟩
      · rw [if_neg c1, if_neg c1] at h
        by_cases c2 : law = 2
        · rw [if_pos c2, if_pos c2] at h
          have := rin.mp h
          exact ⟨this.1, fun z => absurd z c1, fun _ => this.2, fun z => by omega⟩
        · rw [if_neg c2, if_neg c2] at h
          by_cases c3 : law = 3
          · rw [if_pos c3, if_pos c3] at h
            exact ⟨by omega, fun z => absurd z c1, fun z => absurd z c2, fun _ => by omega⟩
          · rw [if_neg c3, if_neg c3] at h
            exact ⟨h, fun z => absurd z c1, fun z => absurd z c2, fun z => absurd z c3⟩
    obtain ⟨k1, k2, k3, k4⟩ := key
    have hP := pin.mp k1
    intro c hc
    unfold sv
    by_cases d1 : c < 8
    · rw [if_pos d1, if_pos d1]
      by_cases e : c < T 0 1
      · rw [if_pos e, if_pos e, hP c e]
      · rw [if_neg e, if_neg e]
    · rw [if_neg d1, if_neg d1]
      by_cases d2 : c = 8
      · rw [if_pos d2, if_pos d2]
        by_cases e : law = 1
        · rw [if_pos e, if_pos e, k2 e]
        · rw [if_neg e, if_neg e]
      · rw [if_neg d2, if_neg d2]
        by_cases d3 : c < 17
        · rw [if_pos d3, if_pos d3]
          by_cases e : c - 9 < T 0 1 ∧ law = 2
          · rw [if_pos e, if_pos e, k3 e.2 _ e.1]
          · rw [if_neg e, if_neg e]
        · rw [if_neg d3, if_neg d3]
          by_cases e : law = 3
          · rw [if_pos e, if_pos e, k4 e]
          · rw [if_neg e, if_neg e]
theorem r_rankOf {mM : GS} {T S : NN} {h : Nat} (hM : RM mM T) (hI : IT T) (hN : RN mM T S) (hS : IS T S) (hNb : S 0 5 < 100000) (hh : h < T 0 1) : MX5_rankOf mM (nI h) = some (nI (rnk T S h)) := by
  have i2 := hI.1.2.2.1
  have m1 := hM.1.2.1
  have eh := hN.2.1 h hh
  have lh := hS.2.2.2.2 h hh
  unfold MX5_rankOf jn1 rnk
  refine lq2_run (fun i => nI (cnt (fun k => decide (S 2 k < S 2 h)) i)) nI (T 0 1) _ ?_ ?_ FU (FU_lt (by omega))
  · intro i hi rec
    have ei := hN.2.1 i hi
    have li := hS.2.2.2.2 i hi
    unfold BX5_rankOf_4
    show _ = rec (nI (cnt (fun k => decide (S 2 k < S 2 h)) i + (bif decide (S 2 i < S 2 h) then 1 else 0))) _
    by_cases c : S 2 i < S 2 h
    · rw [decide_eq_true c]
      simp (disch := omega) only [nm, jn0, jn1, jn2, jn3, jn4, jn5, bnd1_s, bnd2_s, bnd3_s, bnd4_s, lit_n, neg1, chkI_n, chkZ_n, chkC_n, bI_B, chkB_0, chkB_1, bI_t, bI_f, clamp_n, nI_add, subn, remn2, nat_rem, divn, pk_mul, ifle_t, ifle_f, iflt_t, iflt_f, ifeq_t, ifeq_f, ifm_f, ifm_t, if_true, if_false, m1, eh, ei, cond_true, ifr_f]
    · rw [decide_eq_false c]
      simp (disch := omega) only [nm, jn0, jn1, jn2, jn3, jn4, jn5, bnd1_s, bnd2_s, bnd3_s, bnd4_s, lit_n, neg1, chkI_n, chkZ_n, chkC_n, bI_B, chkB_0, chkB_1, bI_t, bI_f, clamp_n, nI_add, subn, remn2, nat_rem, divn, pk_mul, ifle_t, ifle_f, iflt_t, iflt_f, ifeq_t, ifeq_f, ifm_f, ifm_t, if_true, if_false, m1, eh, ei, cond_false, Nat.add_zero, ifr_t]
  · intro rec
    unfold BX5_rankOf_4
    simp (disch := omega) only [nm, jn0, jn1, jn2, jn3, jn4, jn5, bnd1_s, bnd2_s, bnd3_s, bnd4_s, lit_n, neg1, chkI_n, chkZ_n, chkC_n, bI_B, chkB_0, chkB_1, bI_t, bI_f, clamp_n, nI_add, subn, remn2, nat_rem, divn, pk_mul, ifle_t, ifle_f, iflt_t, iflt_f, ifeq_t, ifeq_f, ifm_f, ifm_t, if_true, if_false, m1]
/-- what laying of states leaves -/
def f14 (g g' : GS) (j : Nat) : Prop := (∀ a b, a ≠ 14 → g' a b = g a b) ∧ ∀ k, (k < 18 * j ∨ 18 * j + 18 ≤ k) → g' 14 k = g 14 k
theorem r_layState {mM : GS} {T S : NN} {j : Nat} (hM : RM mM T) (hI : IT T) (hN : RN mM T S) (hS : IS T S) (hNb : S 0 5 < 100000) (hj : j ≤ 500) : ∃ m', MX5_layState mM (nI j) = some m' ∧ f14 mM m' j ∧ ∀ c, c < 18 → m' 14 (18 * j + c) = nI (sv T (T 0 4) S c) := by
  have i2 := hI.1.2.2.1
  have i3 := hI.1.2.2.2.2.2.1
  unfold MX5_layState jn1
  refine lq2_rel (fun i x (g : GS) => x = nI i ∧ f14 mM g j ∧ (∀ c, c < i → g 14 (18 * j + c) = nI (sv T (T 0 4) S c)) ∧ (∀ c, c < i → g 14 (18 * j + 9 + c) = nI (sv T (T 0 4) S (9 + c)))) 8 (fun r => ∃ m', r = some m' ∧ f14 mM m' j ∧ ∀ c, c < 18 → m' 14 (18 * j + c) = nI (sv T (T 0 4) S c)) ?_ _ _ ⟨rfl, ⟨fun a b _ => rfl, fun k _ => rfl⟩, fun c h => absurd h (Nat.not_lt_zero _), fun c h => absurd h (Nat.not_lt_zero _)⟩ (FU_lt (by omega))
  rintro i x g hi ⟨rfl, hf, h1, h2⟩
  have g8 : ∀ k, g 8 k = mM 8 k := fun k => hf.1 8 k (by decide)
  have g02 : g 0 2 = nI (T 0 1) := by rw [hf.1 0 2 (by decide)]; exact hM.1.2.1
  have g09 : g 0 9 = nI (T 0 4) := by rw [hf.1 0 9 (by decide)]; exact hM.1.2.2.2.2.1
  by_cases c : i < 8
  · -- the two numbers of a house
    obtain ⟨ga, hga⟩ : ∃ ga, ga = upA g 14 (upd (g 14) (18 * j + i) (nI (sv T (T 0 4) S i))) := ⟨_, rfl⟩
    have ga_r : ∀ a b, a ≠ 14 → ga a b = g a b := fun a b k => by subst hga; rw [upA_r k]
    have Ma : RM ga T := by
      refine hM.fC fun a b k => ?_
      unfold core at k
      rw [ga_r a b (by omega), hf.1 a b (by omega)]
    have Na : RN ga T S := hN.row hI fun k _ => by rw [ga_r 8 k (by decide), g8]
    have a02 : ga 0 2 = nI (T 0 1) := by rw [ga_r 0 2 (by decide)]; exact g02
    have a09 : ga 0 9 = nI (T 0 4) := by rw [ga_r 0 9 (by decide)]; exact g09
    have e1 : sv T (T 0 4) S i = if i < T 0 1 then S 1 i else 0 := by unfold sv; rw [if_pos c]
    have e2 : sv T (T 0 4) S (9 + i) = if i < T 0 1 ∧ T 0 4 = 2 then rnk T S i else 0 := by
      unfold sv
      rw [if_neg (by omega), if_neg (by omega), if_pos (by omega), show 9 + i - 9 = i by omega]
    refine Or.inl ⟨c, nI (i + 1), upA ga 14 (upd (ga 14) (18 * j + 9 + i) (nI (sv T (T 0 4) S (9 + i)))), ⟨rfl, ⟨fun a b k => ?_, fun k hk => ?_⟩, fun d hd => ?_, fun d hd => ?_⟩, fun rec => ?_⟩
    · rw [upA_r k, ga_r a b k]; exact hf.1 a b k
    · rw [upA_s, pk_un (by omega)]
      subst hga
      rw [upA_s, pk_un (by omega)]
      exact hf.2 k hk
    · rw [upA_s, pk_un (by omega)]
      subst hga
      rw [upA_s]
      by_cases z : d = i
      · subst z; rw [pk_us]
      · rw [pk_un (by omega)]; exact h1 d (by omega)
    · rw [upA_s]
      by_cases z : d = i
      · subst z; rw [pk_us]
      · rw [pk_un (by omega)]
        subst hga
        rw [upA_s, pk_un (by omega)]
        exact h2 d (by omega)
    · have hga' := hga.symm
      unfold BX5_layState_2
      by_cases z : i < T 0 1
      · have e8 : g 8 i = nI (S 1 i) := by rw [g8]; exact hN.1 i z
        rw [if_pos z] at e1
        by_cases y : T 0 4 = 2
        · rw [if_pos ⟨z, y⟩] at e2
          have hr := r_rankOf Ma hI Na hS hNb z
          rw [e2]
          rw [e1] at hga'
          simp (disch := omega) only [nm, jn0, jn1, jn2, jn3, jn4, jn5, bnd1_s, bnd2_s, bnd3_s, bnd4_s, lit_n, neg1, chkI_n, chkZ_n, chkC_n, bI_B, chkB_0, chkB_1, bI_t, bI_f, clamp_n, nI_add, subn, remn2, nat_rem, divn, pk_mul, ifle_t, ifle_f, iflt_t, iflt_f, ifeq_t, ifeq_f, ifm_f, ifm_t, if_true, if_false, g02, e8, hga', a02, a09, hr]
        · rw [if_neg (fun t => y t.2)] at e2
          rw [e2]
          rw [e1] at hga'
          simp (disch := omega) only [nm, jn0, jn1, jn2, jn3, jn4, jn5, bnd1_s, bnd2_s, bnd3_s, bnd4_s, lit_n, neg1, chkI_n, chkZ_n, chkC_n, bI_B, chkB_0, chkB_1, bI_t, bI_f, clamp_n, nI_add, subn, remn2, nat_rem, divn, pk_mul, ifle_t, ifle_f, iflt_t, iflt_f, ifeq_t, ifeq_f, ifm_f, ifm_t, if_true, if_false, g02, e8, hga', a02, a09]
      · rw [if_neg z] at e1
        rw [if_neg (fun t => z t.1)] at e2
        rw [e2]
        rw [e1] at hga'
        simp (disch := omega) only [nm, jn0, jn1, jn2, jn3, jn4, jn5, bnd1_s, bnd2_s, bnd3_s, bnd4_s, lit_n, neg1, chkI_n, chkZ_n, chkC_n, bI_B, chkB_0, chkB_1, bI_t, bI_f, clamp_n, nI_add, subn, remn2, nat_rem, divn, pk_mul, ifle_t, ifle_f, iflt_t, iflt_f, ifeq_t, ifeq_f, ifm_f, ifm_t, if_true, if_false, g02, hga', a02]
  · have : i = 8 := by omega
    subst this
    have e1 : sv T (T 0 4) S 8 = if T 0 4 = 1 then S 0 6 else 0 := by unfold sv; rw [if_neg (by decide), if_pos rfl]
    have e2 : sv T (T 0 4) S 17 = if T 0 4 = 3 then S 0 7 else 0 := by unfold sv; rw [if_neg (by decide), if_neg (by decide), if_neg (by decide)]
    obtain ⟨ga, hga⟩ : ∃ ga, ga = upA g 14 (upd (g 14) (18 * j + 8) (nI (sv T (T 0 4) S 8))) := ⟨_, rfl⟩
    have ga_r : ∀ a b, a ≠ 14 → ga a b = g a b := fun a b k => by subst hga; rw [upA_r k]
    have a09 : ga 0 9 = nI (T 0 4) := by rw [ga_r 0 9 (by decide)]; exact g09
    have g17 : g 8 17 = nI (S 0 6) := by rw [g8]; exact hN.2.2.2.1
    have a18 : ga 8 18 = nI (S 0 7) := by rw [ga_r 8 18 (by decide), g8]; exact hN.2.2.2.2
    refine Or.inr ⟨some (upA ga 14 (upd (ga 14) (18 * j + 17) (nI (sv T (T 0 4) S 17)))), ⟨_, rfl, ⟨fun a b k => ?_, fun k hk => ?_⟩, fun d hd => ?_⟩, fun rec => ?_⟩
    · rw [upA_r k, ga_r a b k]; exact hf.1 a b k
    · rw [upA_s, pk_un (by omega)]
      subst hga
      rw [upA_s, pk_un (by omega)]
      exact hf.2 k hk
    · rw [upA_s]
      by_cases z : d = 17
      · subst z; rw [pk_us]
      · rw [pk_un (by omega)]
        subst hga
        rw [upA_s]
        by_cases y : d = 8
        · subst y; rw [pk_us]
        · rw [pk_un (by omega)]
          by_cases x : d < 8
          · exact h1 d x
          · have := h2 (d - 9) (by omega)
            rwa [show 18 * j + 9 + (d - 9) = 18 * j + d by omega, show 9 + (d - 9) = d by omega] at this
    · have hga' := hga.symm
      unfold BX5_layState_2
      by_cases z : T 0 4 = 1
      · rw [if_pos z] at e1
        rw [if_neg (by omega)] at e2
        rw [e2]
        rw [e1] at hga'
        simp (disch := omega) only [nm, jn0, jn1, jn2, jn3, jn4, jn5, bnd1_s, bnd2_s, bnd3_s, bnd4_s, lit_n, neg1, chkI_n, chkZ_n, chkC_n, bI_B, chkB_0, chkB_1, bI_t, bI_f, clamp_n, nI_add, subn, remn2, nat_rem, divn, pk_mul, ifle_t, ifle_f, iflt_t, iflt_f, ifeq_t, ifeq_f, ifm_f, ifm_t, if_true, if_false, g09, g17, hga', a09]
      · rw [if_neg z] at e1
        rw [e1] at hga'
        by_cases y : T 0 4 = 3
        · rw [if_pos y] at e2
          rw [e2]
          simp (disch := omega) only [nm, jn0, jn1, jn2, jn3, jn4, jn5, bnd1_s, bnd2_s, bnd3_s, bnd4_s, lit_n, neg1, chkI_n, chkZ_n, chkC_n, bI_B, chkB_0, chkB_1, bI_t, bI_f, clamp_n, nI_add, subn, remn2, nat_rem, divn, pk_mul, ifle_t, ifle_f, iflt_t, iflt_f, ifeq_t, ifeq_f, ifm_f, ifm_t, if_true, if_false, g09, hga', a09, a18]
        · rw [if_neg y] at e2
          rw [e2]
          simp (disch := omega) only [nm, jn0, jn1, jn2, jn3, jn4, jn5, bnd1_s, bnd2_s, bnd3_s, bnd4_s, lit_n, neg1, chkI_n, chkZ_n, chkC_n, bI_B, chkB_0, chkB_1, bI_t, bI_f, clamp_n, nI_add, subn, remn2, nat_rem, divn, pk_mul, ifle_t, ifle_f, iflt_t, iflt_f, ifeq_t, ifeq_f, ifm_f, ifm_t, if_true, if_false, g09, hga', a09]
def lkU (u v : Nat → Nat) : Bool := (fst1 (fun c => decide (u c ≠ v c)) 18).isNone
theorem lkU_t {u v : Nat → Nat} (h : ∀ c, c < 18 → u c = v c) : lkU u v = true := by
  unfold lkU
  rw [fst1_none.mpr (fun c hc => by simp [h c hc])]
  rfl
theorem lkU_f {u v : Nat → Nat} (h : ¬ ∀ c, c < 18 → u c = v c) : lkU u v = false := by
  unfold lkU
  cases e : fst1 (fun c => decide (u c ≠ v c)) 18 with
  | some a => rfl
  | none =>
    have := fst1_none.mp e
    exact absurd (fun c hc => by simpa using this c hc) h
theorem r_isLike {g : GS} {u v : Nat → Nat} {i j : Nat} (hi : i ≤ 500) (hj : j ≤ 500) (h1 : ∀ c, c < 18 → g 14 (18 * i + c) = nI (u c)) (h2 : ∀ c, c < 18 → g 14 (18 * j + c) = nI (v c)) (b1 : ∀ c, u c < 100000) (b2 : ∀ c, v c < 100000) : MX5_isLike g (nI i) (nI j) = some (bI (lkU u v)) := by
  unfold MX5_isLike jn1 lkU
  refine lq2_rel (fun c x y => x = bI (fst1 (fun c => decide (u c ≠ v c)) c).isNone ∧ y = nI c) 18 (fun r => r = some (bI (fst1 (fun c => decide (u c ≠ v c)) 18).isNone)) ?_ _ _ ⟨rfl, rfl⟩ (FU_lt (by omega))
  rintro c x y hc ⟨rfl, rfl⟩
  by_cases d : c < 18
  · cases e : fst1 (fun c => decide (u c ≠ v c)) c with
    | some a =>
      have e2 := fst1_mono (m := 18) e (by omega)
      refine Or.inr ⟨_, rfl, fun rec => ?_⟩
      unfold BX5_isLike_5
      rw [e2]
      simp (disch := omega) only [nm, jn0, jn1, jn2, jn3, jn4, jn5, bnd1_s, bnd2_s, bnd3_s, bnd4_s, lit_n, neg1, chkI_n, chkZ_n, chkC_n, bI_B, chkB_0, chkB_1, bI_t, bI_f, clamp_n, nI_add, subn, remn2, nat_rem, divn, pk_mul, ifle_t, ifle_f, iflt_t, iflt_f, ifeq_t, ifeq_f, ifm_f, ifm_t, if_true, if_false, Option.isNone_some]
    | none =>
      have k1 := h1 c d
      have k2 := h2 c d
      have k3 := b1 c
      have k4 := b2 c
      have hs := fst1_s0 e
      refine Or.inl ⟨d, bI (fst1 (fun c => decide (u c ≠ v c)) (c + 1)).isNone, nI (c + 1), ⟨rfl, rfl⟩, fun rec => ?_⟩
      unfold BX5_isLike_5
      rw [hs]
      by_cases z : u c = v c
      · have y : decide (u c ≠ v c) = false := by simpa using z
        rw [y]
        simp (disch := omega) only [nm, jn0, jn1, jn2, jn3, jn4, jn5, bnd1_s, bnd2_s, bnd3_s, bnd4_s, lit_n, neg1, chkI_n, chkZ_n, chkC_n, bI_B, chkB_0, chkB_1, bI_t, bI_f, clamp_n, nI_add, subn, remn2, nat_rem, divn, pk_mul, ifle_t, ifle_f, iflt_t, iflt_f, ifeq_t, ifeq_f, ifm_f, ifm_t, if_true, if_false, k1, k2, Option.isNone_none, Bool.false_eq_true]
      · have y : decide (u c ≠ v c) = true := by simpa using z
        rw [y]
        simp (disch := omega) only [nm, jn0, jn1, jn2, jn3, jn4, jn5, bnd1_s, bnd2_s, bnd3_s, bnd4_s, lit_n, neg1, chkI_n, chkZ_n, chkC_n, bI_B, chkB_0, chkB_1, bI_t, bI_f, clamp_n, nI_add, subn, remn2, nat_rem, divn, pk_mul, ifle_t, ifle_f, iflt_t, iflt_f, ifeq_t, ifeq_f, ifm_f, ifm_t, if_true, if_false, k1, k2, Option.isNone_none, Option.isNone_some]
  · have : c = 18 := by omega
    subst this
    refine Or.inr ⟨_, rfl, fun rec => ?_⟩
    unfold BX5_isLike_5
    simp (disch := omega) only [nm, jn0, jn1, jn2, jn3, jn4, jn5, bnd1_s, bnd2_s, bnd3_s, bnd4_s, lit_n, neg1, chkI_n, chkZ_n, chkC_n, bI_B, chkB_0, chkB_1, bI_t, bI_f, clamp_n, nI_add, subn, remn2, nat_rem, divn, pk_mul, ifle_t, ifle_f, iflt_t, iflt_f, ifeq_t, ifeq_f, ifm_f, ifm_t, if_true, if_false]
