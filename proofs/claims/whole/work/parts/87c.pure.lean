/-! numbers, words: the reference -/
theorem r_fails {g : GS} {b : Nat} (h : g 0 14 = nI b) : MX5_fails g = some (nI 0, up2 g 0 18 (nI b)) := by
  unfold MX5_fails
  simp (disch := omega) only [nm, jn0, jn1, jn2, jn3, jn4, jn5, bnd1_s, bnd2_s, bnd3_s, bnd4_s, lit_n, neg1, chkI_n, chkZ_n, chkC_n, bI_B, chkB_0, chkB_1, bI_t, bI_f, clamp_n, nI_add, subn, remn2, nat_rem, divn, pk_mul, ifle_t, ifle_f, iflt_t, iflt_f, ifeq_t, ifeq_f, ifm_f, ifm_t, if_true, if_false, h]
def fNm (g g' : GS) (w : Nat) : Prop := ∀ i j, (i = 0 → j ≠ 13 ∧ j ≠ 14 ∧ j ≠ 16 ∧ j ≠ 17 ∧ j ≠ 18) → (i = 7 → j ≠ w) → g' i j = g i j
theorem fTk.m {g g' : GS} {w : Nat} (h : fTk g g') : fNm g g' w := fun i j a _ => h i j fun z => ⟨(a z).1, (a z).2.1, (a z).2.2.1, (a z).2.2.2.1⟩
theorem tkn_num {L b : Nat} {Bt : Nat → Nat} : tkn L Bt b = -1 ↔ (b ≠ L ∧ isD (Bt b) = true) ∨ (b ≠ L ∧ isL (Bt b) = true ∧ tkn L Bt b = -1) := by
  constructor
  · intro h
    by_cases c : b = L
    · unfold tkn at h
      rw [if_pos c] at h
      exact absurd h (by decide)
    · cases e : isL (Bt b) with
      | true => exact Or.inr ⟨c, rfl, h⟩
      | false =>
        unfold tkn at h
        rw [if_neg c, e, if_neg Bool.false_ne_true] at h
        cases d : isD (Bt b) with
        | true => exact Or.inl ⟨c, rfl⟩
        | false =>
          rw [d, if_neg Bool.false_ne_true] at h
          split at h
          · exact absurd h (by decide)
          · exact absurd h (by decide)
  · rintro (⟨h1, h2⟩ | ⟨_, _, h⟩)
    · have hl : isL (Bt b) = false := by
        cases e : isL (Bt b) with
        | true => have := isL_D e; rw [h2] at this; cases this
        | false => rfl
      unfold tkn
      rw [if_neg h1, hl, if_neg Bool.false_ne_true, if_pos h2]
    · exact h
theorem l64_n (n : Nat) : (OfNat.ofNat n : Int64) = lN (OfNat.ofNat n) := Eq.trans rfl rfl
theorem m1_64 : (-1 : Int64) = lN 18446744073709551615 := by decide
theorem m2_64 : (-2 : Int64) = lN 18446744073709551614 := by decide
theorem m3_64 : (-3 : Int64) = lN 18446744073709551613 := by decide
theorem m4_64 : (-4 : Int64) = lN 18446744073709551612 := by decide
theorem vW_9 {f : Nat → Nat} {n : Nat} (hn : n ≤ 9) (hf : ∀ i, i < n → f i ≤ 26) : vW f n < 7625597484988 := by
  have h1 := vW_lt hf
  have h2 : 27 ^ n ≤ 27 ^ 9 := Nat.pow_le_pow_right (by decide) hn
  have h3 : 27 ^ 9 = 7625597484987 := by decide
  omega
theorem let_26 {L b : Nat} {Bt : Nat → Nat} (hb : b ≤ L) (hl : isL (Bt b) = true) : ∀ i, i < tE L Bt b - b → 1 ≤ Bt (b + i) - 96 ∧ Bt (b + i) - 96 ≤ 26 := by
  intro i hi
  have := tok_let hb hl (b + i) (by omega) (by omega)
  unfold isL at this
  simp only [decide_eq_true_eq] at this
  omega
/-- a word's token isn't one of the signs' -/
theorem tkn_let {L b : Nat} {Bt : Nat → Nat} (hb : b < L) (hl : isL (Bt b) = true) : ∃ v, v ≠ 18446744073709551615 ∧ v ≠ 18446744073709551614 ∧ v ≠ 18446744073709551613 ∧ v < 18446744073709551616 ∧ tkn L Bt b = lN v := by
  unfold tkn
  rw [if_neg (by omega), if_pos hl]
  split
  · have := vW_9 (f := fun i => Bt (b + i) - 96) (n := tE L Bt b - b) (by assumption) (fun i hi => (let_26 (by omega) hl i hi).2)
    exact ⟨vW (fun i => Bt (b + i) - 96) (tE L Bt b - b), by omega, by omega, by omega, by omega, rfl⟩
  · exact ⟨18446744073709551612, by decide, by decide, by decide, by decide, m4_64⟩
theorem tkn_ne1 {L b : Nat} {Bt : Nat → Nat} (hb : b < L) (hl : isL (Bt b) = true) : ¬ tkn L Bt b = -1 ∧ ¬ tkn L Bt b = -2 ∧ ¬ tkn L Bt b = -3 := by
  obtain ⟨v, h1, h2, h3, h4, e⟩ := tkn_let hb hl
  rw [e, m1_64, m2_64, m3_64, lN_inj h4 (by decide), lN_inj h4 (by decide), lN_inj h4 (by decide)]
  exact ⟨h1, h2, h3⟩
theorem iflc_s {β : Type} {a : Int64} {x y : β} {d : Decidable (lg_cmp a a = nI 0)} : @ite _ (lg_cmp a a = nI 0) d x y = x := iflc_t rfl
set_option maxHeartbeats 4000000 in
theorem r_isNumber {mM : GS} {L p : Nat} {Bt : Nat → Nat} (hX : MT mM L Bt p) (hp : p ≤ L) (tk : Int64) {w lo h md : Nat} {m : Int32} (hw : w < 36) (hlo : lo < 100) (hmd : (m ≤ nI 99 ∧ md = 2) ∨ (¬ m ≤ nI 99 ∧ md = 4)) (hm : ∀ v, v < 100000 → (nI v ≤ m ↔ v < h)) : ∃ m', MX5_isNumber mM tk (nI w) (nI lo) m = some (bI (nb Bt (tB L Bt p) (tE L Bt (tB L Bt p)) lo h md).isSome, m', tkn L Bt (tB L Bt p)) ∧ fNm mM m' w ∧ MT m' L Bt (tE L Bt (tB L Bt p)) ∧ (nb Bt (tB L Bt p) (tE L Bt (tB L Bt p)) lo h md = none → m' 0 18 = nI (tB L Bt p)) ∧ (∀ v, nb Bt (tB L Bt p) (tE L Bt (tB L Bt p)) lo h md = some v → m' 7 w = nI v) ∧ m' 0 14 = nI (tB L Bt p) := by
  have hbL : p ≤ tB L Bt p ∧ tB L Bt p ≤ L := rn_le (g := fun i => decide (Bt i = 32)) hp
  have heL : tB L Bt p ≤ tE L Bt (tB L Bt p) ∧ tE L Bt (tB L Bt p) ≤ L := rn_le (g := gB Bt (tB L Bt p)) hbL.2
  obtain ⟨m1, k1, k2, k3, k4, k5⟩ := r_nextToken hX hp tk
  obtain ⟨b, hb⟩ : ∃ b, b = tB L Bt p := ⟨_, rfl⟩
  rw [← hb] at k1 k3 k4 k5 hbL heL ⊢
  have hEd := fun (hL : b < L) (hd : isD (Bt b) = true) => tE_dig hL hd
  obtain ⟨o, ho⟩ : ∃ o, o = nb Bt b (tE L Bt b) lo h md := ⟨_, rfl⟩
  rw [← ho]
  have hL200 := hX.2.2.1
  have hf := r_fails k4
  have fin0 : o = none → ∃ m', some (nI 0, up2 m1 0 18 (nI b), tkn L Bt b) = some (bI o.isSome, m', tkn L Bt b) ∧ fNm mM m' w ∧ MT m' L Bt (tE L Bt b) ∧ (o = none → m' 0 18 = nI b) ∧ (∀ v, o = some v → m' 7 w = nI v) ∧ m' 0 14 = nI b := by
    intro z
    rw [z]
    refine ⟨up2 m1 0 18 (nI b), rfl, fun i j a c => ?_, ⟨?_, ?_, hL200, fun i hi => ?_⟩, fun _ => up2_s, fun v hv => (by cases hv), (by rw [up2_n (by decide)]; exact k4)⟩
    · by_cases y : i = 0
      · subst y; rw [up2_n (a rfl).2.2.2.2]; exact k2.m (w := w) 0 j a c
      · rw [up2_r y]; exact k2.m (w := w) i j a c
    · rw [up2_n (by decide)]; exact k3.1
    · rw [up2_n (by decide)]; exact k3.2.1
    · rw [up2_r (by decide)]; exact k3.2.2.2 i hi
  by_cases c0 : b ≠ L ∧ isD (Bt b) = true
  · have etk := tkn_num.mpr (Or.inl c0)
    have hlt : b < L := by omega
    obtain ⟨d16, d17⟩ := k5 hlt c0.2
    have hbe : b < tE L Bt b := by
      rw [hEd hlt c0.2, rn_go hlt c0.2]
      have := rn_le (g := fun i => isD (Bt i)) (L := L) (p := b + 1) (by omega)
      omega
    by_cases c2 : tE L Bt b - b ≤ md
    · have hn4 : tE L Bt b - b ≤ 4 := by omega
      have e17 := d17 hn4
      have hall := tok_dig (Bt := Bt) hbL.2 c0.2
      have hv := dv_lt (Bt := Bt) (b := b) (n := tE L Bt b - b) (fun i hi => hall (b + i) (by omega) (by omega))
      have ht := ten_le (n := tE L Bt b - b) (m := 4) (by omega)
      have hmv := hm (dv Bt b (tE L Bt b - b)) (by omega)
      have hmd4 : md ≤ 4 := by omega
      by_cases c4 : lo ≤ dv Bt b (tE L Bt b - b)
      · by_cases c5 : dv Bt b (tE L Bt b - b) < h
        · have e0 : o = some (dv Bt b (tE L Bt b - b)) := ho.trans (if_pos ⟨hbe, c0.2, c2, c4, c5⟩)
          rw [e0]
          have c6 := hmv.mpr c5
          have c7 : ¬ m < nI (dv Bt b (tE L Bt b - b)) := Int32.not_lt.mpr c6
          refine ⟨upA m1 7 (upd (m1 7) w (nI (dv Bt b (tE L Bt b - b)))), ?_, fun i j a c => ?_, ⟨?_, ?_, hL200, fun i hi => ?_⟩, fun z => (by cases z), fun v hv => ?_, (by rw [upA_r (by decide)]; exact k4)⟩
          · unfold MX5_isNumber MX5_in
            rcases hmd with ⟨y, z⟩ | ⟨y, z⟩ <;> simp (disch := omega) only [nm, jn0, jn1, jn2, jn3, jn4, jn5, bnd1_s, bnd2_s, bnd3_s, bnd4_s, lit_n, neg1, chkI_n, chkZ_n, chkC_n, bI_B, chkB_0, chkB_1, bI_t, bI_f, clamp_n, nI_add, subn, remn2, nat_rem, divn, pk_mul, ifle_t, ifle_f, iflt_t, iflt_f, ifeq_t, ifeq_f, ifm_f, ifm_t, if_true, if_false, k1, etk, iflc_s, y, d16, e17, if_neg c7, Option.isSome_some]
          · by_cases y : i = 7
            · subst y; rw [upA_s, pk_un (c rfl)]; exact k2.m (w := w) 7 j a c
            · rw [upA_r y]; exact k2.m (w := w) i j a c
          · rw [upA_r (by decide)]; exact k3.1
          · rw [upA_r (by decide)]; exact k3.2.1
          · rw [upA_r (by decide)]; exact k3.2.2.2 i hi
          · cases hv; rw [upA_s, pk_us]
        · have e0 : o = none := ho.trans (if_neg (fun z => c5 z.2.2.2.2))
          have c6 : m < nI (dv Bt b (tE L Bt b - b)) := Int32.not_le.mp (fun z => c5 (hmv.mp z))
          obtain ⟨m', q⟩ := fin0 e0
          refine ⟨m', ?_, q.2⟩
          rw [← q.1]
          unfold MX5_isNumber MX5_in
          rcases hmd with ⟨y, z⟩ | ⟨y, z⟩ <;> simp (disch := omega) only [nm, jn0, jn1, jn2, jn3, jn4, jn5, bnd1_s, bnd2_s, bnd3_s, bnd4_s, lit_n, neg1, chkI_n, chkZ_n, chkC_n, bI_B, chkB_0, chkB_1, bI_t, bI_f, clamp_n, nI_add, subn, remn2, nat_rem, divn, pk_mul, ifle_t, ifle_f, iflt_t, iflt_f, ifeq_t, ifeq_f, ifm_f, ifm_t, if_true, if_false, k1, etk, iflc_s, y, d16, e17, if_pos c6, hf]
      · have e0 : o = none := ho.trans (if_neg (fun z => c4 z.2.2.2.1))
        obtain ⟨m', q⟩ := fin0 e0
        refine ⟨m', ?_, q.2⟩
        rw [← q.1]
        unfold MX5_isNumber MX5_in
        rcases hmd with ⟨y, z⟩ | ⟨y, z⟩ <;> simp (disch := omega) only [nm, jn0, jn1, jn2, jn3, jn4, jn5, bnd1_s, bnd2_s, bnd3_s, bnd4_s, lit_n, neg1, chkI_n, chkZ_n, chkC_n, bI_B, chkB_0, chkB_1, bI_t, bI_f, clamp_n, nI_add, subn, remn2, nat_rem, divn, pk_mul, ifle_t, ifle_f, iflt_t, iflt_f, ifeq_t, ifeq_f, ifm_f, ifm_t, if_true, if_false, k1, etk, iflc_s, y, d16, e17, hf]
    · have e0 : o = none := ho.trans (if_neg (fun z => c2 z.2.2.1))
      obtain ⟨m', q⟩ := fin0 e0
      refine ⟨m', ?_, q.2⟩
      rw [← q.1]
      unfold MX5_isNumber MX5_in
      rcases hmd with ⟨y, z⟩ | ⟨y, z⟩
      · simp (disch := omega) only [nm, jn0, jn1, jn2, jn3, jn4, jn5, bnd1_s, bnd2_s, bnd3_s, bnd4_s, lit_n, neg1, chkI_n, chkZ_n, chkC_n, bI_B, chkB_0, chkB_1, bI_t, bI_f, clamp_n, nI_add, subn, remn2, nat_rem, divn, pk_mul, ifle_t, ifle_f, iflt_t, iflt_f, ifeq_t, ifeq_f, ifm_f, ifm_t, if_true, if_false, k1, etk, iflc_s, if_pos y, d16, hf]
      · simp (disch := omega) only [nm, jn0, jn1, jn2, jn3, jn4, jn5, bnd1_s, bnd2_s, bnd3_s, bnd4_s, lit_n, neg1, chkI_n, chkZ_n, chkC_n, bI_B, chkB_0, chkB_1, bI_t, bI_f, clamp_n, nI_add, subn, remn2, nat_rem, divn, pk_mul, ifle_t, ifle_f, iflt_t, iflt_f, ifeq_t, ifeq_f, ifm_f, ifm_t, if_true, if_false, k1, etk, iflc_s, if_neg y, d16, hf]
  · have ntk : ¬ tkn L Bt b = -1 := by
      intro z
      rcases tkn_num.mp z with q | ⟨q1, q2, q3⟩
      · exact c0 q
      · exact (tkn_ne1 (by omega) q2).1 q3
    have e0 : o = none := ho.trans (if_neg (fun z => c0 ⟨fun y => by rw [y, tE_end] at z; omega, z.2.1⟩))
    obtain ⟨m', q⟩ := fin0 e0
    refine ⟨m', ?_, q.2⟩
    rw [← q.1]
    unfold MX5_isNumber
    simp (disch := omega) only [nm, jn0, jn1, jn2, jn3, jn4, jn5, bnd1_s, bnd2_s, bnd3_s, bnd4_s, lit_n, neg1, chkI_n, chkZ_n, chkC_n, bI_B, chkB_0, chkB_1, bI_t, bI_f, clamp_n, nI_add, subn, remn2, nat_rem, divn, pk_mul, ifle_t, ifle_f, iflt_t, iflt_f, ifeq_t, ifeq_f, ifm_f, ifm_t, if_true, if_false, k1, iflc_f ntk, hf]
/-! words -/
def WV (k : Nat) : Nat := vW (fun j => wN k j - 96) (wL k)
theorem WV_lt : ∀ k, k < 13 → WV k < 1000000000 := by decide +kernel
theorem wL_3 : ∀ k, k < 13 → 3 ≤ wL k := by decide
theorem isW_tkn {L b : Nat} {Bt : Nat → Nat} (hb : b ≤ L) {k : Nat} (hk : k < 13) : isW Bt b (tE L Bt b) k = true ↔ tkn L Bt b = lN (WV k) := by
  have heL : b ≤ tE L Bt b ∧ tE L Bt b ≤ L := rn_le (g := gB Bt b) hb
  have h3 := wL_3 k hk
  have h6 := wL_6 k hk
  have hwv := WV_lt k hk
  constructor
  · intro h
    unfold isW at h
    rw [Bool.and_eq_true, decide_eq_true_eq] at h
    obtain ⟨h1, h2⟩ := h
    have h2' : fst1 (fun j => decide (Bt (b + j) ≠ wN k j)) (wL k) = none := by
      cases e : fst1 (fun j => decide (Bt (b + j) ≠ wN k j)) (wL k) with
      | none => rfl
      | some v => rw [e] at h2; cases h2
    have hall : ∀ j, j < wL k → Bt (b + j) = wN k j := fun j hj => by
      have := fst1_none.mp h2' j hj
      simpa using this
    have hl : isL (Bt b) = true := by
      have h0 := hall 0 (by omega)
      have := wN_l k hk 0 (by omega)
      rw [Nat.add_zero] at h0
      unfold isL
      exact decide_eq_true (by omega)
    have hn : tE L Bt b - b = wL k := by omega
    unfold tkn
    rw [if_neg (by omega), if_pos hl, hn, if_pos (by omega)]
    unfold WV
    rw [vW_congr (g := fun j => wN k j - 96) (fun i hi => by simp only [hall i hi])]
  · intro h
    by_cases c : b = L
    · unfold tkn at h
      rw [if_pos c, m2_64, lN_inj (by decide) (by omega)] at h
      omega
    · cases e : isL (Bt b) with
      | false =>
        unfold tkn at h
        rw [if_neg c, e, if_neg Bool.false_ne_true] at h
        split at h
        · rw [m1_64, lN_inj (by decide) (by omega)] at h
          omega
        · split at h
          · rw [m3_64, lN_inj (by decide) (by omega)] at h
            omega
          · rw [m4_64, lN_inj (by decide) (by omega)] at h
            omega
      | true =>
        have h26 := let_26 (L := L) (by omega) e
        unfold tkn at h
        rw [if_neg c, if_pos e] at h
        split at h
        · have hv := vW_9 (f := fun i => Bt (b + i) - 96) (n := tE L Bt b - b) (by assumption) (fun i hi => (h26 i hi).2)
          rw [lN_inj (by omega) (by omega)] at h
          unfold WV at h
          obtain ⟨q1, q2⟩ := vW_inj h26 (fun i hi => by have := wN_l k hk i hi; omega) h
          unfold isW
          rw [Bool.and_eq_true, decide_eq_true_eq]
          refine ⟨by omega, ?_⟩
          have : fst1 (fun j => decide (Bt (b + j) ≠ wN k j)) (wL k) = none := by
            refine fst1_none.mpr fun i hi => ?_
            have e1 := q2 i (by omega)
            have e2 := wN_l k hk i hi
            have e3 := h26 i (by omega)
            simp only [decide_eq_false_iff_not, Decidable.not_not]
            omega
          rw [this]
          rfl
        · rw [m4_64, lN_inj (by decide) (by omega)] at h
          omega
/-- the word that begins at b: its number, 13: none -/
def wd (L : Nat) (Bt : Nat → Nat) (b : Nat) : Option Nat := fst1 (isW Bt b (tE L Bt b)) 13
theorem WV_inj : ∀ k, k < 13 → ∀ j, j < 13 → WV k = WV j → k = j := by decide +kernel
theorem wd_some {L b k : Nat} {Bt : Nat → Nat} (hb : b ≤ L) (h : wd L Bt b = some k) : k < 13 ∧ tkn L Bt b = lN (WV k) ∧ ∀ j, j < 13 → isW Bt b (tE L Bt b) j = decide (j = k) := by
  obtain ⟨h1, h2, -⟩ := fst1_some.mp h
  have e := (isW_tkn hb h1).mp h2
  refine ⟨h1, e, fun j hj => ?_⟩
  by_cases c : j = k
  · subst c; rw [h2]; simp
  · rw [decide_eq_false c]
    cases z : isW Bt b (tE L Bt b) j with
    | false => rfl
    | true =>
      have e2 := (isW_tkn hb hj).mp z
      rw [e] at e2
      have l1 := WV_lt k h1
      have l2 := WV_lt j hj
      rw [lN_inj (by omega) (by omega)] at e2
      exact absurd (WV_inj k h1 j hj e2).symm c
theorem wd_none {L b : Nat} {Bt : Nat → Nat} (hb : b ≤ L) (h : wd L Bt b = none) : ∀ j, j < 13 → isW Bt b (tE L Bt b) j = false ∧ ¬ tkn L Bt b = lN (WV j) := by
  intro j hj
  have := fst1_none.mp h j hj
  refine ⟨this, fun z => ?_⟩
  have := (isW_tkn hb hj).mpr z
  simp_all
theorem WV_v : WV 0 = 4078175 ∧ WV 1 = 72592 ∧ WV 2 = 201783983 ∧ WV 3 = 60284 ∧ WV 4 = 10506440 ∧ WV 5 = 459383 ∧ WV 6 = 316205 ∧ WV 7 = 122314 ∧ WV 8 = 9173 ∧ WV 9 = 1834209 ∧ WV 10 = 923 ∧ WV 11 = 409469 ∧ WV 12 = 358472 := by decide +kernel
theorem iflL_t {β : Type} {a b : Nat} {x y : β} {d : Decidable (lg_cmp (lN a) (lN b) = nI 0)} (h : a = b) : @ite _ (lg_cmp (lN a) (lN b) = nI 0) d x y = x := iflc_t (by rw [h])
theorem iflL_f {β : Type} {a b : Nat} {x y : β} {d : Decidable (lg_cmp (lN a) (lN b) = nI 0)} (h : a ≠ b) (ha : a < 18446744073709551616) (hb : b < 18446744073709551616) : @ite _ (lg_cmp (lN a) (lN b) = nI 0) d x y = y := iflc_f (fun z => h ((lN_inj ha hb).mp z))
