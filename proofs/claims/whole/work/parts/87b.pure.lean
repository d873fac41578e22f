/-! numbers and tokens on both sides -/
def dv (Bt : Nat → Nat) (b : Nat) : Nat → Nat
  | 0 => 0
  | n + 1 => 10 * dv Bt b n + (Bt (b + n) - 48)
theorem dv_s {Bt : Nat → Nat} {b n : Nat} : dv Bt b (n + 1) = 10 * dv Bt b n + (Bt (b + n) - 48) := rfl
theorem dv_lt {Bt : Nat → Nat} {b : Nat} : ∀ {n : Nat}, (∀ i, i < n → isD (Bt (b + i)) = true) → dv Bt b n < 10 ^ n := by
  intro n
  induction n with
  | zero => intro _; exact Nat.zero_lt_one
  | succ n ih =>
    intro h
    have h1 := ih fun i hi => h i (by omega)
    have h2 := h n (by omega)
    unfold isD at h2
    simp only [decide_eq_true_eq] at h2
    have e : 10 ^ (n + 1) = 10 ^ n * 10 := Nat.pow_succ ..
    unfold dv
    rw [e]
    omega
theorem ten_le {n m : Nat} (h : n ≤ m) : 10 ^ n ≤ 10 ^ m := Nat.pow_le_pow_right (by decide) h
theorem tok_dig {L b : Nat} {Bt : Nat → Nat} (hb : b ≤ L) (hd : isD (Bt b) = true) : ∀ i, b ≤ i → i < tE L Bt b → isD (Bt i) = true := by
  intro i h1 h2
  have := rn_all (g := gB Bt b) (L := L) (d := L - b) (p := b) (by omega) i h1 h2
  unfold gB at this
  have hl : isL (Bt b) = false := by
    cases e : isL (Bt b) with
    | true => have := isL_D e; rw [hd] at this; cases this
    | false => rfl
  rw [hl, hd] at this
  by_cases c : i = b
  · rw [c]; exact hd
  · have e : (i == b) = false := by simpa using c
    rw [e] at this
    simpa using this
theorem tok_let {L b : Nat} {Bt : Nat → Nat} (hb : b ≤ L) (hd : isL (Bt b) = true) : ∀ i, b ≤ i → i < tE L Bt b → isL (Bt i) = true := by
  intro i h1 h2
  have := rn_all (g := gB Bt b) (L := L) (d := L - b) (p := b) (by omega) i h1 h2
  unfold gB at this
  rw [hd, isL_D hd] at this
  by_cases c : i = b
  · rw [c]; exact hd
  · have e : (i == b) = false := by simpa using c
    rw [e] at this
    simpa using this
/-- the number of a token, within its bounds: lo, less than h, of md digits at most -/
def nb (Bt : Nat → Nat) (b e lo h md : Nat) : Option Nat := if b < e ∧ isD (Bt b) = true ∧ e - b ≤ md ∧ lo ≤ dv Bt b (e - b) ∧ dv Bt b (e - b) < h then some (dv Bt b (e - b)) else none
theorem p_readNumber {xT : GS} {L p ln : Nat} {Bt : Nat → Nat} (hX : XT xT L Bt p ln) (hp : p ≤ L) {lo h md : Nat} {m : Int32} (hlo : lo < 100) (hmd : md ≤ 4) (hm : ∀ v, v < 100000 → (nI v ≤ m ↔ v < h)) : ∃ xT', MX2_readNumber xT (nI lo) m (nI md) = some (oI (nb Bt (tB L Bt p) (tE L Bt (tB L Bt p)) lo h md), xT') ∧ XT xT' L Bt (tE L Bt (tB L Bt p)) ln ∧ xT' 0 3 = nI (tB L Bt p) ∧ tB L Bt p ≤ tE L Bt (tB L Bt p) ∧ tE L Bt (tB L Bt p) ≤ L := by
  obtain ⟨xT', s1, s2, s3, s4, s5⟩ := p_step hX hp
  refine ⟨xT', ?_, s2, s3, s4, s5⟩
  have hbL : tB L Bt p ≤ L := by omega
  have hdig := tok_dig (Bt := Bt) hbL
  obtain ⟨b, hb⟩ : ∃ b, b = tB L Bt p := ⟨_, rfl⟩
  rw [← hb] at s2 s3 s4 s5 hdig hbL ⊢
  obtain ⟨e, he⟩ : ∃ e, e = tE L Bt b := ⟨_, rfl⟩
  rw [← he] at s2 s4 s5 hdig ⊢
  obtain ⟨x1, x2, x4, xL, xB⟩ := s2
  obtain ⟨o, ho⟩ : ∃ o, o = nb Bt b e lo h md := ⟨_, rfl⟩
  rw [← ho]
  unfold MX2_readNumber
  by_cases c1 : b < e
  · obtain ⟨b1, b2⟩ := xB b (by omega)
    have d1 := p_sortOf b2
    have d3 := so_lt (v := Bt b)
    by_cases c2 : e - b ≤ md
    · cases c3 : isD (Bt b) with
      | false =>
        have d2 := so_nD c3
        have e0 : o = none := ho.trans (if_neg (fun z => by rw [c3] at z; cases z.2.1))
        rw [e0]
        simp (disch := omega) only [nm, jn0, jn1, jn2, jn3, jn4, jn5, bnd1_s, bnd2_s, bnd3_s, bnd4_s, lit_n, neg1, chkI_n, chkZ_n, chkC_n, bI_B, chkB_0, chkB_1, bI_t, bI_f, clamp_n, nI_add, subn, remn2, nat_rem, divn, pk_mul, ifle_t, ifle_f, iflt_t, iflt_f, ifeq_t, ifeq_f, ifm_f, ifm_t, if_true, if_false, s1, s3, x4, b1, d1, oI]
      | true =>
        rw [so_D c3] at d1
        have hall := hdig c3
        have hv := dv_lt (Bt := Bt) (b := b) (n := e - b) (fun i hi => hall (b + i) (by omega) (by omega))
        have ht := ten_le (n := e - b) (m := 4) (by omega)
        have hmv := hm (dv Bt b (e - b)) (by omega)
        simp (disch := omega) only [nm, jn0, jn1, jn2, jn3, jn4, jn5, bnd1_s, bnd2_s, bnd3_s, bnd4_s, lit_n, neg1, chkI_n, chkZ_n, chkC_n, bI_B, chkB_0, chkB_1, bI_t, bI_f, clamp_n, nI_add, subn, remn2, nat_rem, divn, pk_mul, ifle_t, ifle_f, iflt_t, iflt_f, ifeq_t, ifeq_f, ifm_f, ifm_t, if_true, if_false, s1, s3, x4, b1, d1]
        refine lq2_rel (fun i x y => x = nI (dv Bt b i) ∧ y = nI (b + i)) (e - b) (fun r => r = some (oI o, xT')) ?_ _ _ ⟨rfl, rfl⟩ (FU_lt (by omega))
        rintro i x y hi ⟨rfl, rfl⟩
        by_cases c : i < e - b
        · obtain ⟨i1, i2⟩ := xB (b + i) (by omega)
          have hdi := hall (b + i) (by omega) (by omega)
          unfold isD at hdi
          simp only [decide_eq_true_eq] at hdi
          refine Or.inl ⟨c, nI (dv Bt b (i + 1)), nI (b + (i + 1)), ⟨rfl, rfl⟩, fun rec => ?_⟩
          have hvi := dv_lt (Bt := Bt) (b := b) (n := i) (fun j hj => hall (b + j) (by omega) (by omega))
          have hti := ten_le (n := i) (m := 4) (by omega)
          unfold BX2_readNumber_54
          simp (disch := omega) only [nm, jn0, jn1, jn2, jn3, jn4, jn5, bnd1_s, bnd2_s, bnd3_s, bnd4_s, lit_n, neg1, chkI_n, chkZ_n, chkC_n, bI_B, chkB_0, chkB_1, bI_t, bI_f, clamp_n, nI_add, subn, remn2, nat_rem, divn, pk_mul, ifle_t, ifle_f, iflt_t, iflt_f, ifeq_t, ifeq_f, ifm_f, ifm_t, if_true, if_false, x4, i1]
          rw [show 10 * dv Bt b i + Bt (b + i) - 48 = dv Bt b (i + 1) by rw [dv_s]; omega, Nat.add_assoc]
        · have : i = e - b := by omega
          subst this
          refine Or.inr ⟨_, rfl, fun rec => ?_⟩
          have hbe : b + (e - b) = e := by omega
          unfold BX2_readNumber_54
          rw [hbe]
          by_cases c4 : lo ≤ dv Bt b (e - b)
          · by_cases c5 : dv Bt b (e - b) < h
            · have e0 : o = some (dv Bt b (e - b)) := ho.trans (if_pos ⟨c1, c3, c2, c4, c5⟩)
              rw [e0]
              have c6 := hmv.mpr c5
              simp (disch := omega) only [nm, jn0, jn1, jn2, jn3, jn4, jn5, bnd1_s, bnd2_s, bnd3_s, bnd4_s, lit_n, neg1, chkI_n, chkZ_n, chkC_n, bI_B, chkB_0, chkB_1, bI_t, bI_f, clamp_n, nI_add, subn, remn2, nat_rem, divn, pk_mul, ifle_t, ifle_f, iflt_t, iflt_f, ifeq_t, ifeq_f, ifm_f, ifm_t, if_true, if_false, x4, oI, if_pos c6]
            · have e0 : o = none := ho.trans (if_neg (fun z => c5 z.2.2.2.2))
              rw [e0]
              have c6 : ¬ nI (dv Bt b (e - b)) ≤ m := fun z => c5 (hmv.mp z)
              simp (disch := omega) only [nm, jn0, jn1, jn2, jn3, jn4, jn5, bnd1_s, bnd2_s, bnd3_s, bnd4_s, lit_n, neg1, chkI_n, chkZ_n, chkC_n, bI_B, chkB_0, chkB_1, bI_t, bI_f, clamp_n, nI_add, subn, remn2, nat_rem, divn, pk_mul, ifle_t, ifle_f, iflt_t, iflt_f, ifeq_t, ifeq_f, ifm_f, ifm_t, if_true, if_false, x4, oI, if_neg c6]
          · have e0 : o = none := ho.trans (if_neg (fun z => c4 z.2.2.2.1))
            rw [e0]
            simp (disch := omega) only [nm, jn0, jn1, jn2, jn3, jn4, jn5, bnd1_s, bnd2_s, bnd3_s, bnd4_s, lit_n, neg1, chkI_n, chkZ_n, chkC_n, bI_B, chkB_0, chkB_1, bI_t, bI_f, clamp_n, nI_add, subn, remn2, nat_rem, divn, pk_mul, ifle_t, ifle_f, iflt_t, iflt_f, ifeq_t, ifeq_f, ifm_f, ifm_t, if_true, if_false, x4, oI]
    · have e0 : o = none := ho.trans (if_neg (fun z => c2 z.2.2.1))
      rw [e0]
      simp (disch := omega) only [nm, jn0, jn1, jn2, jn3, jn4, jn5, bnd1_s, bnd2_s, bnd3_s, bnd4_s, lit_n, neg1, chkI_n, chkZ_n, chkC_n, bI_B, chkB_0, chkB_1, bI_t, bI_f, clamp_n, nI_add, subn, remn2, nat_rem, divn, pk_mul, ifle_t, ifle_f, iflt_t, iflt_f, ifeq_t, ifeq_f, ifm_f, ifm_t, if_true, if_false, s1, s3, x4, oI]
  · have e0 : o = none := ho.trans (if_neg (fun z => c1 z.1))
    rw [e0]
    simp (disch := omega) only [nm, jn0, jn1, jn2, jn3, jn4, jn5, bnd1_s, bnd2_s, bnd3_s, bnd4_s, lit_n, neg1, chkI_n, chkZ_n, chkC_n, bI_B, chkB_0, chkB_1, bI_t, bI_f, clamp_n, nI_add, subn, remn2, nat_rem, divn, pk_mul, ifle_t, ifle_f, iflt_t, iflt_f, ifeq_t, ifeq_f, ifm_f, ifm_t, if_true, if_false, s1, s3, x4, oI]
/-! the reference's tokens -/
def vW (f : Nat → Nat) : Nat → Nat
  | 0 => 0
  | n + 1 => 27 * vW f n + f n
theorem vW_lt {f : Nat → Nat} : ∀ {n : Nat}, (∀ i, i < n → f i ≤ 26) → vW f n < 27 ^ n := by
  intro n
  induction n with
  | zero => intro _; exact Nat.zero_lt_one
  | succ n ih =>
    intro h
    have h1 := ih fun i hi => h i (by omega)
    have h2 := h n (by omega)
    have e : 27 ^ (n + 1) = 27 ^ n * 27 := Nat.pow_succ ..
    unfold vW
    rw [e]
    omega
theorem vW_inj {f g : Nat → Nat} : ∀ {n m : Nat}, (∀ i, i < n → 1 ≤ f i ∧ f i ≤ 26) → (∀ i, i < m → 1 ≤ g i ∧ g i ≤ 26) → vW f n = vW g m → n = m ∧ ∀ i, i < n → f i = g i := by
  intro n
  induction n with
  | zero =>
    intro m hf hg h
    cases m with
    | zero => exact ⟨rfl, fun i hi => absurd hi (Nat.not_lt_zero _)⟩
    | succ m =>
      have := hg m (by omega)
      unfold vW at h
      omega
  | succ n ih =>
    intro m hf hg h
    cases m with
    | zero =>
      have := hf n (by omega)
      unfold vW at h
      omega
    | succ m =>
      have h1 := hf n (by omega)
      have h2 := hg m (by omega)
      unfold vW at h
      have e : vW f n = vW g m ∧ f n = g m := by omega
      obtain ⟨q1, q2⟩ := ih (fun i hi => hf i (by omega)) (fun i hi => hg i (by omega)) e.1
      subst q1
      refine ⟨rfl, fun i hi => ?_⟩
      by_cases c : i = n
      · rw [c]; exact e.2
      · exact q2 i (by omega)
theorem vW_congr {f g : Nat → Nat} : ∀ {n : Nat}, (∀ i, i < n → f i = g i) → vW f n = vW g n := by
  intro n
  induction n with
  | zero => intro _; rfl
  | succ n ih =>
    intro h
    unfold vW
    rw [ih fun i hi => h i (by omega), h n (by omega)]
/-- the token that begins at b, as the reference tells it -/
def tkn (L : Nat) (Bt : Nat → Nat) (b : Nat) : Int64 := if b = L then -2 else if isL (Bt b) = true then (if tE L Bt b - b ≤ 9 then lN (vW (fun i => Bt (b + i) - 96) (tE L Bt b - b)) else -4) else if isD (Bt b) = true then -1 else if Bt b = 59 then -3 else -4
def MT (mM : GS) (L : Nat) (Bt : Nat → Nat) (p : Nat) : Prop := mM 0 11 = nI L ∧ mM 0 13 = nI p ∧ L ≤ 200 ∧ ∀ i, i < L → mM 6 i = nI (Bt i) ∧ Bt i < 256
def fTk (g g' : GS) : Prop := ∀ i j, (i = 0 → j ≠ 13 ∧ j ≠ 14 ∧ j ≠ 16 ∧ j ≠ 17) → g' i j = g i j
theorem fTk.refl {g : GS} : fTk g g := fun _ _ _ => rfl
theorem fTk.trans {g g' g'' : GS} (h : fTk g g') (h' : fTk g' g'') : fTk g g'' := fun i j c => (h' i j c).trans (h i j c)
theorem fTk_up {g : GS} {j : Nat} {v : Int32} (hj : j = 13 ∨ j = 14 ∨ j = 16 ∨ j = 17) : fTk g (up2 g 0 j v) := by
  intro a b h
  by_cases c : a = 0
  · subst c
    have := h rfl
    rw [up2_n (by omega)]
  · rw [up2_r c]
theorem in_L {v : Nat} (h : v < 256) : MX5_in (nI v) (nI 97) (nI 122) = some (bI (isL v)) := r_in (by omega) (by decide) (by decide)
theorem in_D {v : Nat} (h : v < 256) : MX5_in (nI v) (nI 48) (nI 57) = some (bI (isD v)) := r_in (by omega) (by decide) (by decide)
theorem r_blanks {mM : GS} {L p : Nat} {Bt : Nat → Nat} (hX : MT mM L Bt p) (hp : p ≤ L) (K : GS → Option (GS × Int64)) : ∃ m', lq1 (BX5_nextToken_0 K) FU mM = K m' ∧ fTk mM m' ∧ MT m' L Bt (tB L Bt p) ∧ (∀ i j, (i = 0 → j ≠ 13) → m' i j = mM i j) := by
  obtain ⟨x1, x3, xL, xB⟩ := hX
  have hb : p ≤ tB L Bt p ∧ tB L Bt p ≤ L := rn_le (g := fun i => decide (Bt i = 32)) hp
  have key := lq1_rel (f := BX5_nextToken_0 K) (fun i (g : GS) => p + i ≤ L ∧ g 0 13 = nI (p + i) ∧ (∀ a j, (a = 0 → j ≠ 13) → g a j = mM a j) ∧ rn (fun i => decide (Bt i = 32)) L (p + i) = tB L Bt p) (L - p) (fun r => ∃ m', r = K m' ∧ fTk mM m' ∧ MT m' L Bt (tB L Bt p) ∧ (∀ i j, (i = 0 → j ≠ 13) → m' i j = mM i j)) ?_ mM ⟨hp, x3, fun _ _ _ => rfl, rfl⟩ (FU_lt (by omega))
  · exact key
  rintro i g hi ⟨hpi, g13, gf, hr⟩
  have g11 : g 0 11 = nI L := by rw [gf 0 11 (by decide)]; exact x1
  have gB : ∀ i, i < L → g 6 i = nI (Bt i) ∧ Bt i < 256 := fun i hi => by rw [gf 6 i (by simp)]; exact xB i hi
  have fin : rn (fun i => decide (Bt i = 32)) L (p + i) = p + i → ∃ m', K g = K m' ∧ fTk mM m' ∧ MT m' L Bt (tB L Bt p) ∧ (∀ i j, (i = 0 → j ≠ 13) → m' i j = mM i j) := by
    intro q
    refine ⟨g, rfl, fun a j h => gf a j (fun z => (h z).1), ⟨g11, ?_, xL, gB⟩, gf⟩
    rw [g13, ← hr, q]
  by_cases c : p + i < L
  · obtain ⟨e1, e2⟩ := gB (p + i) c
    by_cases k : Bt (p + i) = 32
    · refine Or.inl ⟨by omega, up2 g 0 13 (nI (p + i + 1)), ⟨by omega, up2_s, fun a j h => ?_, ?_⟩, fun rec => ?_⟩
      · by_cases z : a = 0
        · subst z; rw [up2_n (h rfl)]; exact gf 0 j h
        · rw [up2_r z]; exact gf a j h
      · rw [← hr, rn_go c (by simpa using k)]; rfl
      · unfold BX5_nextToken_0
        simp (disch := omega) only [nm, jn0, jn1, jn2, jn3, jn4, jn5, bnd1_s, bnd2_s, bnd3_s, bnd4_s, lit_n, neg1, chkI_n, chkZ_n, chkC_n, bI_B, chkB_0, chkB_1, bI_t, bI_f, clamp_n, nI_add, subn, remn2, nat_rem, divn, pk_mul, ifle_t, ifle_f, iflt_t, iflt_f, ifeq_t, ifeq_f, ifm_f, ifm_t, if_true, if_false, g11, g13, e1]
    · refine Or.inr ⟨_, fin (rn_stop (fun z => k (by simpa using z.2))), fun rec => ?_⟩
      unfold BX5_nextToken_0
      simp (disch := omega) only [nm, jn0, jn1, jn2, jn3, jn4, jn5, bnd1_s, bnd2_s, bnd3_s, bnd4_s, lit_n, neg1, chkI_n, chkZ_n, chkC_n, bI_B, chkB_0, chkB_1, bI_t, bI_f, clamp_n, nI_add, subn, remn2, nat_rem, divn, pk_mul, ifle_t, ifle_f, iflt_t, iflt_f, ifeq_t, ifeq_f, ifm_f, ifm_t, if_true, if_false, g11, g13, e1]
  · refine Or.inr ⟨_, fin (rn_stop (fun z => c z.1)), fun rec => ?_⟩
    unfold BX5_nextToken_0
    simp (disch := omega) only [nm, jn0, jn1, jn2, jn3, jn4, jn5, bnd1_s, bnd2_s, bnd3_s, bnd4_s, lit_n, neg1, chkI_n, chkZ_n, chkC_n, bI_B, chkB_0, chkB_1, bI_t, bI_f, clamp_n, nI_add, subn, remn2, nat_rem, divn, pk_mul, ifle_t, ifle_f, iflt_t, iflt_f, ifeq_t, ifeq_f, ifm_f, ifm_t, if_true, if_false, g11, g13]
theorem tE_let {L b : Nat} {Bt : Nat → Nat} (hb : b < L) (hl : isL (Bt b) = true) : tE L Bt b = rn (fun i => isL (Bt i)) L b := by
  refine rn_congr (d := L - b) (by omega) fun i h1 h2 => ?_
  unfold gB
  rw [hl, isL_D hl]
  by_cases c : i = b
  · subst c; simp [hl]
  · have e : (i == b) = false := by simpa using c
    rw [e]; simp
theorem tE_dig {L b : Nat} {Bt : Nat → Nat} (hb : b < L) (hd : isD (Bt b) = true) : tE L Bt b = rn (fun i => isD (Bt i)) L b := by
  have hl : isL (Bt b) = false := by
    cases e : isL (Bt b) with
    | true => have := isL_D e; rw [hd] at this; cases this
    | false => rfl
  refine rn_congr (d := L - b) (by omega) fun i h1 h2 => ?_
  unfold gB
  rw [hl, hd]
  by_cases c : i = b
  · subst c; simp [hd]
  · have e : (i == b) = false := by simpa using c
    rw [e]; simp
theorem tE_oth {L b : Nat} {Bt : Nat → Nat} (hb : b < L) (hl : isL (Bt b) = false) (hd : isD (Bt b) = false) : tE L Bt b = b + 1 := by
  unfold tE
  rw [rn_go hb (by simp [gB]), rn_stop]
  rintro ⟨h1, h2⟩
  unfold gB at h2
  rw [hl, hd] at h2
  simp at h2
theorem tE_end {L : Nat} {Bt : Nat → Nat} : tE L Bt L = L := rn_stop (fun z => absurd z.1 (Nat.lt_irrefl _))
set_option maxHeartbeats 4000000 in
theorem r_nextToken {mM : GS} {L p : Nat} {Bt : Nat → Nat} (hX : MT mM L Bt p) (hp : p ≤ L) (tk : Int64) : ∃ m', MX5_nextToken mM tk = some (m', tkn L Bt (tB L Bt p)) ∧ fTk mM m' ∧ MT m' L Bt (tE L Bt (tB L Bt p)) ∧ m' 0 14 = nI (tB L Bt p) ∧ (tB L Bt p < L → isD (Bt (tB L Bt p)) = true → m' 0 16 = nI (tE L Bt (tB L Bt p) - tB L Bt p) ∧ (tE L Bt (tB L Bt p) - tB L Bt p ≤ 4 → m' 0 17 = nI (dv Bt (tB L Bt p) (tE L Bt (tB L Bt p) - tB L Bt p)))) := by
  have hbL : p ≤ tB L Bt p ∧ tB L Bt p ≤ L := rn_le (g := fun i => decide (Bt i = 32)) hp
  have heL : tB L Bt p ≤ tE L Bt (tB L Bt p) ∧ tE L Bt (tB L Bt p) ≤ L := rn_le (g := gB Bt (tB L Bt p)) hbL.2
  obtain ⟨m1, k1, k2, k3, k4⟩ := r_blanks hX hp (fun (mM_1 : GS) => nm (mM_1 0 13) fun (x3 : Int32) => nm (up2 mM_1 0 14 x3) fun (mM_4 : GS) => nm (up2 mM_4 0 16 (0 : Int32)) fun (mM_5 : GS) => nm (up2 mM_5 0 17 (0 : Int32)) fun (mM_6 : GS) => jn2 (fun (mM_7 : GS) (tk_8 : Int64) => some (mM_7, tk_8)) (fun k9 => if (mM_6 0 13) = (mM_6 0 11) then (k9 mM_6 (-2 : Int64)) else (chkI (mM_6 0 13) 200 (bnd1 (MX5_in (mM_6 6 (mM_6 0 13).toNatClampNeg) (97 : Int32) (122 : Int32)) fun (r12 : Int32) => if r12 = 0 then (chkI (mM_6 0 13) 200 (bnd1 (MX5_in (mM_6 6 (mM_6 0 13).toNatClampNeg) (48 : Int32) (57 : Int32)) fun (r16 : Int32) => if r16 = 0 then (chkI (mM_6 0 13) 200 (jn1 (fun (x20 : Int64) => nm ((mM_6 0 13) + (1 : Int32)) fun (x22 : Int32) => nm (up2 mM_6 0 13 x22) fun (mM_23 : GS) => k9 mM_23 x20) (fun k21 => if (mM_6 6 (mM_6 0 13).toNatClampNeg) = (59 : Int32) then (k21 (-3 : Int64)) else (k21 (-4 : Int64))))) else (jn1 (fun (mM_25 : GS) => k9 mM_25 (-1 : Int64)) (fun k26 => lq1 (BX5_nextToken_241 k26) FU mM_6)))) else (jn2 (fun (mM_43 : GS) (tk_44 : Int64) => jn1 (fun (x46 : Int64) => k9 mM_43 x46) (fun k47 => if ((mM_43 0 13) - (mM_43 0 14)) ≤ (9 : Int32) then (k47 tk_44) else (k47 (-4 : Int64)))) (fun k45 => lq2 (BX5_nextToken_101 k45) FU mM_6 (0 : Int64)))))))
  have k0 : MX5_nextToken mM tk = lq1 (BX5_nextToken_0 (fun (mM_1 : GS) => nm (mM_1 0 13) fun (x3 : Int32) => nm (up2 mM_1 0 14 x3) fun (mM_4 : GS) => nm (up2 mM_4 0 16 (0 : Int32)) fun (mM_5 : GS) => nm (up2 mM_5 0 17 (0 : Int32)) fun (mM_6 : GS) => jn2 (fun (mM_7 : GS) (tk_8 : Int64) => some (mM_7, tk_8)) (fun k9 => if (mM_6 0 13) = (mM_6 0 11) then (k9 mM_6 (-2 : Int64)) else (chkI (mM_6 0 13) 200 (bnd1 (MX5_in (mM_6 6 (mM_6 0 13).toNatClampNeg) (97 : Int32) (122 : Int32)) fun (r12 : Int32) => if r12 = 0 then (chkI (mM_6 0 13) 200 (bnd1 (MX5_in (mM_6 6 (mM_6 0 13).toNatClampNeg) (48 : Int32) (57 : Int32)) fun (r16 : Int32) => if r16 = 0 then (chkI (mM_6 0 13) 200 (jn1 (fun (x20 : Int64) => nm ((mM_6 0 13) + (1 : Int32)) fun (x22 : Int32) => nm (up2 mM_6 0 13 x22) fun (mM_23 : GS) => k9 mM_23 x20) (fun k21 => if (mM_6 6 (mM_6 0 13).toNatClampNeg) = (59 : Int32) then (k21 (-3 : Int64)) else (k21 (-4 : Int64))))) else (jn1 (fun (mM_25 : GS) => k9 mM_25 (-1 : Int64)) (fun k26 => lq1 (BX5_nextToken_241 k26) FU mM_6)))) else (jn2 (fun (mM_43 : GS) (tk_44 : Int64) => jn1 (fun (x46 : Int64) => k9 mM_43 x46) (fun k47 => if ((mM_43 0 13) - (mM_43 0 14)) ≤ (9 : Int32) then (k47 tk_44) else (k47 (-4 : Int64)))) (fun k45 => lq2 (BX5_nextToken_101 k45) FU mM_6 (0 : Int64)))))))) FU mM := rfl
  rw [k0, k1]
  clear k0
  clear k1
  obtain ⟨b, hb⟩ : ∃ b, b = tB L Bt p := ⟨_, rfl⟩
  rw [← hb] at k3 hbL heL ⊢
  obtain ⟨x1, x3, xL, xB⟩ := k3
  obtain ⟨m2, hm2⟩ : ∃ m2, m2 = up2 (up2 (up2 m1 0 14 (nI b)) 0 16 (nI 0)) 0 17 (nI 0) := ⟨_, rfl⟩
  have f2 : fTk mM m2 := by
    rw [hm2]
    exact k2.trans ((fTk_up (by simp)).trans ((fTk_up (by simp)).trans (fTk_up (by simp))))
  have a13 : m2 0 13 = nI b := by rw [hm2, up2_n (by decide), up2_n (by decide), up2_n (by decide)]; exact x3
  have a11 : m2 0 11 = nI L := by rw [hm2, up2_n (by decide), up2_n (by decide), up2_n (by decide)]; exact x1
  have a14 : m2 0 14 = nI b := by rw [hm2, up2_n (by decide), up2_n (by decide), up2_s]
  have a16 : m2 0 16 = nI 0 := by rw [hm2, up2_n (by decide), up2_s]
  have a17 : m2 0 17 = nI 0 := by rw [hm2, up2_s]
  have aB : ∀ i, i < L → m2 6 i = nI (Bt i) ∧ Bt i < 256 := fun i hi => by
    rw [hm2, up2_r (by decide), up2_r (by decide), up2_r (by decide)]
    exact xB i hi
  simp (disch := omega) only [nm, jn0, jn1, jn2, jn3, jn4, jn5, bnd1_s, bnd2_s, bnd3_s, bnd4_s, lit_n, neg1, chkI_n, chkZ_n, chkC_n, bI_B, chkB_0, chkB_1, bI_t, bI_f, clamp_n, nI_add, subn, remn2, nat_rem, divn, pk_mul, ifle_t, ifle_f, iflt_t, iflt_f, ifeq_t, ifeq_f, ifm_f, ifm_t, if_true, if_false, x3, ← hm2]
  unfold tkn
  by_cases c0 : b = L
  · rw [if_pos c0]
    have e1 : tE L Bt b = L := by rw [c0]; exact tE_end
    refine ⟨m2, ?_, f2, ⟨a11, by rw [a13, e1, c0], xL, aB⟩, a14, fun z => by omega⟩
    simp (disch := omega) only [nm, jn0, jn1, jn2, jn3, jn4, jn5, bnd1_s, bnd2_s, bnd3_s, bnd4_s, lit_n, neg1, chkI_n, chkZ_n, chkC_n, bI_B, chkB_0, chkB_1, bI_t, bI_f, clamp_n, nI_add, subn, remn2, nat_rem, divn, pk_mul, ifle_t, ifle_f, iflt_t, iflt_f, ifeq_t, ifeq_f, ifm_f, ifm_t, if_true, if_false, a13, a11]
  · rw [if_neg c0]
    obtain ⟨b1, b2⟩ := aB b (by omega)
    have iL := in_L b2
    have iD := in_D b2
    cases c1 : isL (Bt b) with
    | true =>
      have cD := isL_D c1
      rw [c1] at iL
      rw [if_pos rfl]
      have hE := tE_let (L := L) (by omega) c1
      have hall := tok_let (Bt := Bt) hbL.2 c1
      simp (disch := omega) only [nm, jn0, jn1, jn2, jn3, jn4, jn5, bnd1_s, bnd2_s, bnd3_s, bnd4_s, lit_n, neg1, chkI_n, chkZ_n, chkC_n, bI_B, chkB_0, chkB_1, bI_t, bI_f, clamp_n, nI_add, subn, remn2, nat_rem, divn, pk_mul, ifle_t, ifle_f, iflt_t, iflt_f, ifeq_t, ifeq_f, ifm_f, ifm_t, if_true, if_false, a13, a11, b1, iL]
      refine lq2_rel (fun i (g : GS) (t : Int64) => b + i ≤ L ∧ g 0 13 = nI (b + i) ∧ (∀ a j, (a = 0 → j ≠ 13) → g a j = m2 a j) ∧ t = (if i ≤ 9 then lN (vW (fun i => Bt (b + i) - 96) i) else -4) ∧ rn (fun i => isL (Bt i)) L (b + i) = tE L Bt b ∧ b + i ≤ tE L Bt b) (L - b) (fun r => ∃ m', r = some (m', if tE L Bt b - b ≤ 9 then lN (vW (fun i => Bt (b + i) - 96) (tE L Bt b - b)) else -4) ∧ fTk mM m' ∧ MT m' L Bt (tE L Bt b) ∧ m' 0 14 = nI b ∧ (b < L → isD (Bt b) = true → m' 0 16 = nI (tE L Bt b - b) ∧ (tE L Bt b - b ≤ 4 → m' 0 17 = nI (dv Bt b (tE L Bt b - b))))) ?_ _ _ ⟨hbL.2, a13, fun _ _ _ => rfl, rfl, hE.symm, heL.1⟩ (FU_lt (by omega))
      rintro i g t hi ⟨hbi, g13, gf, rfl, hr, hle⟩
      have g11 : g 0 11 = nI L := by rw [gf 0 11 (by decide)]; exact a11
      have g14 : g 0 14 = nI b := by rw [gf 0 14 (by decide)]; exact a14
      have gB : ∀ i, i < L → g 6 i = nI (Bt i) ∧ Bt i < 256 := fun i hi => by rw [gf 6 i (by simp)]; exact aB i hi
      have fin : b + i = tE L Bt b → ∃ m', some (g, if i ≤ 9 then lN (vW (fun i => Bt (b + i) - 96) i) else (-4 : Int64)) = some (m', if tE L Bt b - b ≤ 9 then lN (vW (fun i => Bt (b + i) - 96) (tE L Bt b - b)) else -4) ∧ fTk mM m' ∧ MT m' L Bt (tE L Bt b) ∧ m' 0 14 = nI b ∧ (b < L → isD (Bt b) = true → m' 0 16 = nI (tE L Bt b - b) ∧ (tE L Bt b - b ≤ 4 → m' 0 17 = nI (dv Bt b (tE L Bt b - b)))) := by
        intro q
        refine ⟨g, by rw [← q, show b + i - b = i by omega], f2.trans fun a j h => gf a j fun z => (h z).1, ⟨g11, by rw [g13, q], xL, gB⟩, g14, fun _ z => by rw [cD] at z; cases z⟩
      by_cases c : b + i < L
      · obtain ⟨e1, e2⟩ := gB (b + i) c
        have iLi := in_L e2
        cases k : isL (Bt (b + i)) with
        | true =>
          rw [k] at iLi
          have hrr := rn_go (g := fun i => isL (Bt i)) c k
          have hgt : b + i + 1 ≤ tE L Bt b := by
            have := rn_le (g := fun i => isL (Bt i)) (L := L) (p := b + i + 1) (by omega)
            rw [← hrr, hr] at this
            exact this.1
          have hlt := k
          unfold isL at hlt
          simp only [decide_eq_true_eq] at hlt
          refine Or.inl ⟨by omega, up2 g 0 13 (nI (b + i + 1)), if i + 1 ≤ 9 then lN (vW (fun i => Bt (b + i) - 96) (i + 1)) else -4, ⟨by omega, up2_s, fun a j h => ?_, rfl, ?_, hgt⟩, fun rec => ?_⟩
          · by_cases z : a = 0
            · subst z; rw [up2_n (h rfl)]; exact gf 0 j h
            · rw [up2_r z]; exact gf a j h
          · rw [← hr, hrr]; rfl
          · unfold BX5_nextToken_101
            by_cases c9 : i + 1 ≤ 9
            · have c8 : i ≤ 9 := by omega
              rw [if_pos c9, if_pos c8]
              have hval : ((27 : Int64) * lN (vW (fun i => Bt (b + i) - 96) i) + (nI (Bt (b + i))).toInt64) - (96 : Int64) = lN (vW (fun i => Bt (b + i) - 96) (i + 1)) := by
                have h27 : (27 : Int64) = lN 27 := rfl
                have h96 : (96 : Int64) = lN 96 := rfl
                rw [h27, h96, lN_mul, nI_l (by omega), lN_add, lN_sub (by omega)]
                congr 1
                show _ = 27 * vW (fun i => Bt (b + i) - 96) i + (Bt (b + i) - 96)
                omega
              simp (disch := omega) only [nm, jn0, jn1, jn2, jn3, jn4, jn5, bnd1_s, bnd2_s, bnd3_s, bnd4_s, lit_n, neg1, chkI_n, chkZ_n, chkC_n, bI_B, chkB_0, chkB_1, bI_t, bI_f, clamp_n, nI_add, subn, remn2, nat_rem, divn, pk_mul, ifle_t, ifle_f, iflt_t, iflt_f, ifeq_t, ifeq_f, ifm_f, ifm_t, if_true, if_false, g11, g13, g14, e1, iLi]
              rw [hval]
            · rw [if_neg c9]
              simp (disch := omega) only [nm, jn0, jn1, jn2, jn3, jn4, jn5, bnd1_s, bnd2_s, bnd3_s, bnd4_s, lit_n, neg1, chkI_n, chkZ_n, chkC_n, bI_B, chkB_0, chkB_1, bI_t, bI_f, clamp_n, nI_add, subn, remn2, nat_rem, divn, pk_mul, ifle_t, ifle_f, iflt_t, iflt_f, ifeq_t, ifeq_f, ifm_f, ifm_t, if_true, if_false, g11, g13, g14, e1, iLi]
        | false =>
          rw [k] at iLi
          have hs := rn_stop (g := fun i => isL (Bt i)) (L := L) (p := b + i) (fun z => by rw [k] at z; cases z.2)
          refine Or.inr ⟨_, fin (hs.symm.trans hr), fun rec => ?_⟩
          unfold BX5_nextToken_101
          by_cases c9 : i ≤ 9
          · simp (disch := omega) only [nm, jn0, jn1, jn2, jn3, jn4, jn5, bnd1_s, bnd2_s, bnd3_s, bnd4_s, lit_n, neg1, chkI_n, chkZ_n, chkC_n, bI_B, chkB_0, chkB_1, bI_t, bI_f, clamp_n, nI_add, subn, remn2, nat_rem, divn, pk_mul, ifle_t, ifle_f, iflt_t, iflt_f, ifeq_t, ifeq_f, ifm_f, ifm_t, if_true, if_false, g11, g13, g14, e1, iLi]
          · simp (disch := omega) only [nm, jn0, jn1, jn2, jn3, jn4, jn5, bnd1_s, bnd2_s, bnd3_s, bnd4_s, lit_n, neg1, chkI_n, chkZ_n, chkC_n, bI_B, chkB_0, chkB_1, bI_t, bI_f, clamp_n, nI_add, subn, remn2, nat_rem, divn, pk_mul, ifle_t, ifle_f, iflt_t, iflt_f, ifeq_t, ifeq_f, ifm_f, ifm_t, if_true, if_false, g11, g13, g14, e1, iLi, if_neg c9]
      · have hs := rn_stop (g := fun i => isL (Bt i)) (L := L) (p := b + i) (fun z => c z.1)
        refine Or.inr ⟨_, fin (hs.symm.trans hr), fun rec => ?_⟩
        unfold BX5_nextToken_101
        by_cases c9 : i ≤ 9
        · simp (disch := omega) only [nm, jn0, jn1, jn2, jn3, jn4, jn5, bnd1_s, bnd2_s, bnd3_s, bnd4_s, lit_n, neg1, chkI_n, chkZ_n, chkC_n, bI_B, chkB_0, chkB_1, bI_t, bI_f, clamp_n, nI_add, subn, remn2, nat_rem, divn, pk_mul, ifle_t, ifle_f, iflt_t, iflt_f, ifeq_t, ifeq_f, ifm_f, ifm_t, if_true, if_false, g11, g13, g14]
        · simp (disch := omega) only [nm, jn0, jn1, jn2, jn3, jn4, jn5, bnd1_s, bnd2_s, bnd3_s, bnd4_s, lit_n, neg1, chkI_n, chkZ_n, chkC_n, bI_B, chkB_0, chkB_1, bI_t, bI_f, clamp_n, nI_add, subn, remn2, nat_rem, divn, pk_mul, ifle_t, ifle_f, iflt_t, iflt_f, ifeq_t, ifeq_f, ifm_f, ifm_t, if_true, if_false, g11, g13, g14, if_neg c9]
    | false =>
      rw [c1] at iL
      rw [if_neg Bool.false_ne_true]
      cases c2 : isD (Bt b) with
      | true =>
        rw [c2] at iD
        rw [if_pos rfl]
        have hE := tE_dig (L := L) (by omega) c2
        have hall := tok_dig (Bt := Bt) hbL.2 c2
        simp (disch := omega) only [nm, jn0, jn1, jn2, jn3, jn4, jn5, bnd1_s, bnd2_s, bnd3_s, bnd4_s, lit_n, neg1, chkI_n, chkZ_n, chkC_n, bI_B, chkB_0, chkB_1, bI_t, bI_f, clamp_n, nI_add, subn, remn2, nat_rem, divn, pk_mul, ifle_t, ifle_f, iflt_t, iflt_f, ifeq_t, ifeq_f, ifm_f, ifm_t, if_true, if_false, a13, a11, b1, iL, iD]
        refine lq1_rel (fun i (g : GS) => b + i ≤ L ∧ g 0 13 = nI (b + i) ∧ g 0 16 = nI i ∧ (∃ v, v < 100000 ∧ g 0 17 = nI v ∧ (i ≤ 4 → v = dv Bt b i)) ∧ (∀ a j, (a = 0 → j ≠ 13 ∧ j ≠ 16 ∧ j ≠ 17) → g a j = m2 a j) ∧ rn (fun i => isD (Bt i)) L (b + i) = tE L Bt b ∧ b + i ≤ tE L Bt b) (L - b) (fun r => ∃ m', r = some (m', (-1 : Int64)) ∧ fTk mM m' ∧ MT m' L Bt (tE L Bt b) ∧ m' 0 14 = nI b ∧ (b < L → True → m' 0 16 = nI (tE L Bt b - b) ∧ (tE L Bt b - b ≤ 4 → m' 0 17 = nI (dv Bt b (tE L Bt b - b))))) ?_ _ ⟨hbL.2, a13, a16, ⟨0, by decide, a17, fun _ => rfl⟩, fun _ _ _ => rfl, hE.symm, heL.1⟩ (FU_lt (by omega))
        rintro i g hi ⟨hbi, g13, g16, ⟨v, hv1, g17, hv2⟩, gf, hr, hle⟩
        have g11 : g 0 11 = nI L := by rw [gf 0 11 (by decide)]; exact a11
        have g14 : g 0 14 = nI b := by rw [gf 0 14 (by decide)]; exact a14
        have gB : ∀ i, i < L → g 6 i = nI (Bt i) ∧ Bt i < 256 := fun i hi => by rw [gf 6 i (by simp)]; exact aB i hi
        have fin : b + i = tE L Bt b → ∃ m', some (g, (-1 : Int64)) = some (m', (-1 : Int64)) ∧ fTk mM m' ∧ MT m' L Bt (tE L Bt b) ∧ m' 0 14 = nI b ∧ (b < L → True → m' 0 16 = nI (tE L Bt b - b) ∧ (tE L Bt b - b ≤ 4 → m' 0 17 = nI (dv Bt b (tE L Bt b - b)))) := by
          intro q
          have q' : tE L Bt b - b = i := by omega
          refine ⟨g, rfl, f2.trans fun a j h => gf a j fun z => ⟨(h z).1, (h z).2.2.1, (h z).2.2.2⟩, ⟨g11, by rw [g13, q], xL, gB⟩, g14, fun _ _ => ⟨by rw [q']; exact g16, fun z => ?_⟩⟩
          rw [q'] at z ⊢
          rw [g17, hv2 z]
        by_cases c : b + i < L
        · obtain ⟨e1, e2⟩ := gB (b + i) c
          have iDi := in_D e2
          cases k : isD (Bt (b + i)) with
          | true =>
            rw [k] at iDi
            have hrr := rn_go (g := fun i => isD (Bt i)) c k
            have hgt : b + i + 1 ≤ tE L Bt b := by
              have := rn_le (g := fun i => isD (Bt i)) (L := L) (p := b + i + 1) (by omega)
              rw [← hrr, hr] at this
              exact this.1
            have hlt := k
            unfold isD at hlt
            simp only [decide_eq_true_eq] at hlt
            have hdv := dv_lt (Bt := Bt) (b := b) (n := i) (fun j hj => hall (b + j) (by omega) (by omega))
            obtain ⟨v', hv'⟩ : ∃ v', v' = if i < 4 then 10 * v + Bt (b + i) - 48 else v := ⟨_, rfl⟩
            refine Or.inl ⟨by omega, up2 (up2 (up2 g 0 17 (nI v')) 0 16 (nI (i + 1))) 0 13 (nI (b + i + 1)), ⟨by omega, up2_s, ?_, ⟨v', ?_, ?_, fun z => ?_⟩, fun a j h => ?_, ?_, hgt⟩, fun rec => ?_⟩
            · rw [up2_n (by decide), up2_s]
            · rw [hv']
              split
              · have h4 := hv2 (by omega)
                have h5 := ten_le (n := i) (m := 3) (by omega)
                omega
              · exact hv1
            · rw [up2_n (by decide), up2_n (by decide), up2_s]
            · rw [hv', if_pos (by omega), hv2 (by omega)]
              show _ = 10 * dv Bt b i + (Bt (b + i) - 48)
              omega
            · by_cases z : a = 0
              · subst z
                have := h rfl
                rw [up2_n this.1, up2_n this.2.1, up2_n this.2.2]
                exact gf 0 j h
              · rw [up2_r z, up2_r z, up2_r z]; exact gf a j h
            · rw [← hr, hrr]; rfl
            · unfold BX5_nextToken_241
              by_cases c4 : i < 4
              · rw [if_pos c4] at hv'
                simp (disch := omega) only [nm, jn0, jn1, jn2, jn3, jn4, jn5, bnd1_s, bnd2_s, bnd3_s, bnd4_s, lit_n, neg1, chkI_n, chkZ_n, chkC_n, bI_B, chkB_0, chkB_1, bI_t, bI_f, clamp_n, nI_add, subn, remn2, nat_rem, divn, pk_mul, ifle_t, ifle_f, iflt_t, iflt_f, ifeq_t, ifeq_f, ifm_f, ifm_t, if_true, if_false, g11, g13, g16, g17, e1, iDi, ← hv', up2_s, up2_r, up2_n, upA_s, upA_r, pk_us, pk_un, cpy_n]
              · rw [if_neg c4] at hv'
                simp (disch := omega) only [nm, jn0, jn1, jn2, jn3, jn4, jn5, bnd1_s, bnd2_s, bnd3_s, bnd4_s, lit_n, neg1, chkI_n, chkZ_n, chkC_n, bI_B, chkB_0, chkB_1, bI_t, bI_f, clamp_n, nI_add, subn, remn2, nat_rem, divn, pk_mul, ifle_t, ifle_f, iflt_t, iflt_f, ifeq_t, ifeq_f, ifm_f, ifm_t, if_true, if_false, g11, g13, g16, g17, e1, iDi, hv', up2_s, up2_r, up2_n, upA_s, upA_r, pk_us, pk_un, cpy_n]
          | false =>
            rw [k] at iDi
            have hs := rn_stop (g := fun i => isD (Bt i)) (L := L) (p := b + i) (fun z => by rw [k] at z; cases z.2)
            refine Or.inr ⟨_, fin (hs.symm.trans hr), fun rec => ?_⟩
            unfold BX5_nextToken_241
            simp (disch := omega) only [nm, jn0, jn1, jn2, jn3, jn4, jn5, bnd1_s, bnd2_s, bnd3_s, bnd4_s, lit_n, neg1, chkI_n, chkZ_n, chkC_n, bI_B, chkB_0, chkB_1, bI_t, bI_f, clamp_n, nI_add, subn, remn2, nat_rem, divn, pk_mul, ifle_t, ifle_f, iflt_t, iflt_f, ifeq_t, ifeq_f, ifm_f, ifm_t, if_true, if_false, g11, g13, e1, iDi]
        · have hs := rn_stop (g := fun i => isD (Bt i)) (L := L) (p := b + i) (fun z => c z.1)
          refine Or.inr ⟨_, fin (hs.symm.trans hr), fun rec => ?_⟩
          unfold BX5_nextToken_241
          simp (disch := omega) only [nm, jn0, jn1, jn2, jn3, jn4, jn5, bnd1_s, bnd2_s, bnd3_s, bnd4_s, lit_n, neg1, chkI_n, chkZ_n, chkC_n, bI_B, chkB_0, chkB_1, bI_t, bI_f, clamp_n, nI_add, subn, remn2, nat_rem, divn, pk_mul, ifle_t, ifle_f, iflt_t, iflt_f, ifeq_t, ifeq_f, ifm_f, ifm_t, if_true, if_false, g11, g13]
      | false =>
        rw [c2] at iD
        rw [if_neg Bool.false_ne_true]
        have hE := tE_oth (L := L) (by omega) c1 c2
        refine ⟨up2 m2 0 13 (nI (b + 1)), ?_, f2.trans (fTk_up (by simp)), ⟨?_, ?_, xL, fun i hi => ?_⟩, ?_, fun _ z => by cases z⟩
        · by_cases c9 : Bt b = 59
          · simp (disch := omega) only [nm, jn0, jn1, jn2, jn3, jn4, jn5, bnd1_s, bnd2_s, bnd3_s, bnd4_s, lit_n, neg1, chkI_n, chkZ_n, chkC_n, bI_B, chkB_0, chkB_1, bI_t, bI_f, clamp_n, nI_add, subn, remn2, nat_rem, divn, pk_mul, ifle_t, ifle_f, iflt_t, iflt_f, ifeq_t, ifeq_f, ifm_f, ifm_t, if_true, if_false, a13, a11, b1, iL, iD, if_pos c9]
          · simp (disch := omega) only [nm, jn0, jn1, jn2, jn3, jn4, jn5, bnd1_s, bnd2_s, bnd3_s, bnd4_s, lit_n, neg1, chkI_n, chkZ_n, chkC_n, bI_B, chkB_0, chkB_1, bI_t, bI_f, clamp_n, nI_add, subn, remn2, nat_rem, divn, pk_mul, ifle_t, ifle_f, iflt_t, iflt_f, ifeq_t, ifeq_f, ifm_f, ifm_t, if_true, if_false, a13, a11, b1, iL, iD, if_neg c9]
        · rw [up2_n (by decide)]; exact a11
        · rw [up2_s, hE]
        · rw [up2_r (by decide)]; exact aB i hi
        · rw [up2_n (by decide)]; exact a14
