/-! ===== the text: tokens ===== -/
def run (g : Nat → Bool) : Nat → Nat → Nat
  | 0, p => p
  | d + 1, p => if g p = true then run g d (p + 1) else p
def rn (g : Nat → Bool) (L p : Nat) : Nat := run g (L - p) p
theorem rn_stop {g : Nat → Bool} {L p : Nat} (h : ¬ (p < L ∧ g p = true)) : rn g L p = p := by
  unfold rn
  cases e : L - p with
  | zero => rfl
  | succ d =>
    unfold run
    rw [if_neg (fun z => h ⟨by omega, z⟩)]
theorem rn_go {g : Nat → Bool} {L p : Nat} (h : p < L) (hg : g p = true) : rn g L p = rn g L (p + 1) := by
  unfold rn
  rw [show L - p = (L - (p + 1)) + 1 by omega]
  unfold run
  rw [if_pos hg]
  cases L - (p + 1) <;> rfl
theorem rn_b {g : Nat → Bool} {L : Nat} : ∀ {d p : Nat}, p + d = L → p ≤ rn g L p ∧ rn g L p ≤ L := by
  intro d
  induction d with
  | zero =>
    intro p h
    rw [rn_stop (by omega)]
    omega
  | succ d ih =>
    intro p h
    by_cases c : g p = true
    · rw [rn_go (by omega) c]
      have := ih (p := p + 1) (by omega)
      omega
    · rw [rn_stop (fun z => c z.2)]
      omega
theorem rn_le {g : Nat → Bool} {L p : Nat} (h : p ≤ L) : p ≤ rn g L p ∧ rn g L p ≤ L := rn_b (d := L - p) (by omega)
theorem rn_all {g : Nat → Bool} {L : Nat} : ∀ {d p : Nat}, p + d = L → ∀ i, p ≤ i → i < rn g L p → g i = true := by
  intro d
  induction d with
  | zero => intro p h i h1 h2; rw [rn_stop (by omega)] at h2; omega
  | succ d ih =>
    intro p h i h1 h2
    by_cases c : g p = true
    · rw [rn_go (by omega) c] at h2
      by_cases k : i = p
      · rw [k]; exact c
      · exact ih (p := p + 1) (by omega) i (by omega) h2
    · rw [rn_stop (fun z => c z.2)] at h2
      omega
theorem rn_congr {g g' : Nat → Bool} {L : Nat} : ∀ {d p : Nat}, p + d = L → (∀ i, p ≤ i → i < L → g i = g' i) → rn g L p = rn g' L p := by
  intro d
  induction d with
  | zero => intro p h _; rw [rn_stop (by omega), rn_stop (by omega)]
  | succ d ih =>
    intro p h e
    have e0 := e p (Nat.le_refl _) (by omega)
    by_cases c : g p = true
    · rw [rn_go (by omega) c, rn_go (g := g') (by omega) (e0.symm.trans c)]
      exact ih (p := p + 1) (by omega) (fun i h1 h2 => e i (by omega) h2)
    · rw [rn_stop (fun z => c z.2), rn_stop (fun z => c (e0.trans z.2))]
def isL (v : Nat) : Bool := decide (97 ≤ v ∧ v ≤ 122)
def isD (v : Nat) : Bool := decide (48 ≤ v ∧ v ≤ 57)
def gB (Bt : Nat → Nat) (b i : Nat) : Bool := i == b || (isL (Bt b) && isL (Bt i) || isD (Bt b) && isD (Bt i))
def tB (L : Nat) (Bt : Nat → Nat) (p : Nat) : Nat := rn (fun i => decide (Bt i = 32)) L p
def tE (L : Nat) (Bt : Nat → Nat) (b : Nat) : Nat := rn (gB Bt b) L b
/-- the class's text: read up to e, ln lines told -/
def XT (xT : GS) (L : Nat) (Bt : Nat → Nat) (e ln : Nat) : Prop := xT 0 1 = nI L ∧ xT 0 2 = nI ln ∧ xT 0 4 = nI e ∧ L ≤ 200 ∧ ∀ i, i < L → xT 1 i = nI (Bt i) ∧ Bt i < 256
theorem isL_D {v : Nat} (h : isL v = true) : isD v = false := by
  unfold isL at h
  unfold isD
  simp only [decide_eq_true_eq] at h
  exact decide_eq_false (by omega)
def so (v : Nat) : Nat := if 97 ≤ v ∧ v ≤ 122 then 1 else if 48 ≤ v ∧ v ≤ 57 then 2 else 0
theorem so_c (v : Nat) : (isL v = true ∧ isD v = false ∧ so v = 1) ∨ (isL v = false ∧ isD v = true ∧ so v = 2) ∨ (isL v = false ∧ isD v = false ∧ so v = 0) := by
  unfold isL isD so
  by_cases a : 97 ≤ v ∧ v ≤ 122
  · exact Or.inl ⟨decide_eq_true a, decide_eq_false (by omega), if_pos a⟩
  · by_cases b : 48 ≤ v ∧ v ≤ 57
    · exact Or.inr (Or.inl ⟨decide_eq_false a, decide_eq_true b, by rw [if_neg a, if_pos b]⟩)
    · exact Or.inr (Or.inr ⟨decide_eq_false a, decide_eq_false b, by rw [if_neg a, if_neg b]⟩)
theorem so_lt {v : Nat} : so v < 3 := by
  rcases so_c v with ⟨-, -, h⟩ | ⟨-, -, h⟩ | ⟨-, -, h⟩ <;> omega
theorem so_D {v : Nat} (h : isD v = true) : so v = 2 := by
  rcases so_c v with ⟨-, h2, -⟩ | ⟨-, -, h3⟩ | ⟨-, h2, -⟩
  · rw [h] at h2; cases h2
  · exact h3
  · rw [h] at h2; cases h2
theorem so_nD {v : Nat} (h : isD v = false) : so v ≠ 2 := by
  rcases so_c v with ⟨-, -, h3⟩ | ⟨-, h2, -⟩ | ⟨-, -, h3⟩
  · omega
  · rw [h] at h2; cases h2
  · omega
theorem p_sortOf {v : Nat} (h : v < 256) : MX2_sortOf (nI v) = some (nI (so v)) := by
  unfold MX2_sortOf so
  by_cases a : v < 97
  · rw [if_neg (by omega)]
    by_cases c : v < 48
    · rw [if_neg (by omega)]; simp (disch := omega) only [nm, jn0, jn1, jn2, jn3, jn4, jn5, bnd1_s, bnd2_s, bnd3_s, bnd4_s, lit_n, neg1, chkI_n, chkZ_n, chkC_n, bI_B, chkB_0, chkB_1, bI_t, bI_f, clamp_n, nI_add, subn, remn2, nat_rem, divn, pk_mul, ifle_t, ifle_f, iflt_t, iflt_f, ifeq_t, ifeq_f, ifm_f, ifm_t, if_true, if_false]
    · by_cases d : 57 < v
      · rw [if_neg (by omega)]; simp (disch := omega) only [nm, jn0, jn1, jn2, jn3, jn4, jn5, bnd1_s, bnd2_s, bnd3_s, bnd4_s, lit_n, neg1, chkI_n, chkZ_n, chkC_n, bI_B, chkB_0, chkB_1, bI_t, bI_f, clamp_n, nI_add, subn, remn2, nat_rem, divn, pk_mul, ifle_t, ifle_f, iflt_t, iflt_f, ifeq_t, ifeq_f, ifm_f, ifm_t, if_true, if_false]
      · rw [if_pos (by omega)]; simp (disch := omega) only [nm, jn0, jn1, jn2, jn3, jn4, jn5, bnd1_s, bnd2_s, bnd3_s, bnd4_s, lit_n, neg1, chkI_n, chkZ_n, chkC_n, bI_B, chkB_0, chkB_1, bI_t, bI_f, clamp_n, nI_add, subn, remn2, nat_rem, divn, pk_mul, ifle_t, ifle_f, iflt_t, iflt_f, ifeq_t, ifeq_f, ifm_f, ifm_t, if_true, if_false]
  · by_cases b : 122 < v
    · rw [if_neg (by omega), if_neg (by omega)]; simp (disch := omega) only [nm, jn0, jn1, jn2, jn3, jn4, jn5, bnd1_s, bnd2_s, bnd3_s, bnd4_s, lit_n, neg1, chkI_n, chkZ_n, chkC_n, bI_B, chkB_0, chkB_1, bI_t, bI_f, clamp_n, nI_add, subn, remn2, nat_rem, divn, pk_mul, ifle_t, ifle_f, iflt_t, iflt_f, ifeq_t, ifeq_f, ifm_f, ifm_t, if_true, if_false]
    · rw [if_pos (by omega)]; simp (disch := omega) only [nm, jn0, jn1, jn2, jn3, jn4, jn5, bnd1_s, bnd2_s, bnd3_s, bnd4_s, lit_n, neg1, chkI_n, chkZ_n, chkC_n, bI_B, chkB_0, chkB_1, bI_t, bI_f, clamp_n, nI_add, subn, remn2, nat_rem, divn, pk_mul, ifle_t, ifle_f, iflt_t, iflt_f, ifeq_t, ifeq_f, ifm_f, ifm_t, if_true, if_false]
theorem gB_so {Bt : Nat → Nat} {b i : Nat} (h : i ≠ b) : gB Bt b i = decide (so (Bt b) ≠ 0 ∧ so (Bt i) = so (Bt b)) := by
  have e : (i == b) = false := by simpa using h
  unfold gB
  rcases so_c (Bt b) with ⟨x1, x2, x3⟩ | ⟨x1, x2, x3⟩ | ⟨x1, x2, x3⟩ <;> rcases so_c (Bt i) with ⟨y1, y2, y3⟩ | ⟨y1, y2, y3⟩ | ⟨y1, y2, y3⟩ <;> simp [e, x1, x2, x3, y1, y2, y3]
theorem p_tok {xT : GS} {L b : Nat} {Bt : Nat → Nat} (h1 : xT 0 1 = nI L) (hL : L ≤ 200) (hB : ∀ i, i < L → xT 1 i = nI (Bt i) ∧ Bt i < 256) (hb : b < L) : lq1 (BX2_stepToToken_56 xT (fun (x5 : Int32) => some (up2 xT 0 4 x5)) (nI (so (Bt b)))) FU (nI (b + 1)) = some (up2 xT 0 4 (nI (tE L Bt b))) := by
  refine lq1_rel (fun j x => b + 1 + j ≤ L ∧ x = nI (b + 1 + j) ∧ rn (gB Bt b) L (b + 1 + j) = tE L Bt b) (L - b - 1) (fun r => r = some (up2 xT 0 4 (nI (tE L Bt b)))) ?_ _ ⟨by omega, rfl, ?_⟩ (FU_lt (by omega))
  · rintro j x hj ⟨hbj, rfl, hr⟩
    have s1 := so_lt (v := Bt b)
    have s2 := so_lt (v := Bt (b + 1 + j))
    by_cases c : b + 1 + j < L
    · obtain ⟨e1, e2⟩ := hB _ c
      have hs := p_sortOf e2
      have hg := gB_so (Bt := Bt) (b := b) (i := b + 1 + j) (by omega)
      by_cases k0 : so (Bt b) = 0
      · have k : ¬ (so (Bt b) ≠ 0 ∧ so (Bt (b + 1 + j)) = so (Bt b)) := fun z => z.1 k0
        rw [decide_eq_false k] at hg
        refine Or.inr ⟨_, rfl, fun rec => ?_⟩
        rw [← hr, rn_stop (fun z => by rw [hg] at z; cases z.2)]
        unfold BX2_stepToToken_56
        simp (disch := omega) only [nm, jn0, jn1, jn2, jn3, jn4, jn5, bnd1_s, bnd2_s, bnd3_s, bnd4_s, lit_n, neg1, chkI_n, chkZ_n, chkC_n, bI_B, chkB_0, chkB_1, bI_t, bI_f, clamp_n, nI_add, subn, remn2, nat_rem, divn, pk_mul, ifle_t, ifle_f, iflt_t, iflt_f, ifeq_t, ifeq_f, ifm_f, ifm_t, if_true, if_false, h1]
      · by_cases k1 : so (Bt (b + 1 + j)) = so (Bt b)
        · rw [decide_eq_true ⟨k0, k1⟩] at hg
          refine Or.inl ⟨by omega, nI (b + 1 + (j + 1)), ⟨by omega, rfl, ?_⟩, fun rec => ?_⟩
          · rw [← hr, rn_go c hg]; rfl
          · unfold BX2_stepToToken_56
            simp (disch := omega) only [nm, jn0, jn1, jn2, jn3, jn4, jn5, bnd1_s, bnd2_s, bnd3_s, bnd4_s, lit_n, neg1, chkI_n, chkZ_n, chkC_n, bI_B, chkB_0, chkB_1, bI_t, bI_f, clamp_n, nI_add, subn, remn2, nat_rem, divn, pk_mul, ifle_t, ifle_f, iflt_t, iflt_f, ifeq_t, ifeq_f, ifm_f, ifm_t, if_true, if_false, h1, e1, hs]
            rfl
        · have k : ¬ (so (Bt b) ≠ 0 ∧ so (Bt (b + 1 + j)) = so (Bt b)) := fun z => k1 z.2
          rw [decide_eq_false k] at hg
          refine Or.inr ⟨_, rfl, fun rec => ?_⟩
          rw [← hr, rn_stop (fun z => by rw [hg] at z; cases z.2)]
          unfold BX2_stepToToken_56
          simp (disch := omega) only [nm, jn0, jn1, jn2, jn3, jn4, jn5, bnd1_s, bnd2_s, bnd3_s, bnd4_s, lit_n, neg1, chkI_n, chkZ_n, chkC_n, bI_B, chkB_0, chkB_1, bI_t, bI_f, clamp_n, nI_add, subn, remn2, nat_rem, divn, pk_mul, ifle_t, ifle_f, iflt_t, iflt_f, ifeq_t, ifeq_f, ifm_f, ifm_t, if_true, if_false, h1, e1, hs]
    · refine Or.inr ⟨_, rfl, fun rec => ?_⟩
      rw [← hr, rn_stop (fun z => c z.1)]
      unfold BX2_stepToToken_56
      simp (disch := omega) only [nm, jn0, jn1, jn2, jn3, jn4, jn5, bnd1_s, bnd2_s, bnd3_s, bnd4_s, lit_n, neg1, chkI_n, chkZ_n, chkC_n, bI_B, chkB_0, chkB_1, bI_t, bI_f, clamp_n, nI_add, subn, remn2, nat_rem, divn, pk_mul, ifle_t, ifle_f, iflt_t, iflt_f, ifeq_t, ifeq_f, ifm_f, ifm_t, if_true, if_false, h1]
  · have : gB Bt b b = true := by unfold gB; simp
    exact (rn_go hb this).symm
theorem p_step {xT : GS} {L p ln : Nat} {Bt : Nat → Nat} (hX : XT xT L Bt p ln) (hp : p ≤ L) : ∃ xT', MX2_stepToToken xT = some xT' ∧ XT xT' L Bt (tE L Bt (tB L Bt p)) ln ∧ xT' 0 3 = nI (tB L Bt p) ∧ tB L Bt p ≤ tE L Bt (tB L Bt p) ∧ tE L Bt (tB L Bt p) ≤ L := by
  obtain ⟨x1, x2, x4, xL, xB⟩ := hX
  have hb : p ≤ tB L Bt p ∧ tB L Bt p ≤ L := rn_le (g := fun i => decide (Bt i = 32)) hp
  have he : tB L Bt p ≤ tE L Bt (tB L Bt p) ∧ tE L Bt (tB L Bt p) ≤ L := rn_le (g := gB Bt (tB L Bt p)) (L := L) (p := tB L Bt p) hb.2
  refine ⟨up2 (up2 xT 0 3 (nI (tB L Bt p))) 0 4 (nI (tE L Bt (tB L Bt p))), ?_, ⟨?_, ?_, up2_s, xL, fun i hi => ?_⟩, ?_, he.1, he.2⟩
  rotate_left
  · rw [up2_n (by decide), up2_n (by decide)]; exact x1
  · rw [up2_n (by decide), up2_n (by decide)]; exact x2
  · rw [up2_r (by decide), up2_r (by decide)]; exact xB i hi
  · rw [up2_n (by decide), up2_s]
  unfold MX2_stepToToken
  simp (disch := omega) only [nm, jn0, jn1, jn2, jn3, jn4, jn5, bnd1_s, bnd2_s, bnd3_s, bnd4_s, lit_n, neg1, chkI_n, chkZ_n, chkC_n, bI_B, chkB_0, chkB_1, bI_t, bI_f, clamp_n, nI_add, subn, remn2, nat_rem, divn, pk_mul, ifle_t, ifle_f, iflt_t, iflt_f, ifeq_t, ifeq_f, ifm_f, ifm_t, if_true, if_false, x4]
  refine lq1_rel (fun i x => p + i ≤ L ∧ x = nI (p + i) ∧ rn (fun i => decide (Bt i = 32)) L (p + i) = tB L Bt p) (L - p) (fun r => r = some (up2 (up2 xT 0 3 (nI (tB L Bt p))) 0 4 (nI (tE L Bt (tB L Bt p))))) ?_ _ ⟨hp, rfl, rfl⟩ (FU_lt (by omega))
  rintro i x hi ⟨hpi, rfl, hr⟩
  by_cases c : p + i < L
  · have eb := xB (p + i) c
    by_cases k : Bt (p + i) = 32
    · refine Or.inl ⟨by omega, nI (p + (i + 1)), ⟨by omega, rfl, ?_⟩, fun rec => ?_⟩
      · rw [← hr, rn_go c (by simpa using k)]; rfl
      · unfold BX2_stepToToken_5
        have e2 := eb.1
        simp (disch := omega) only [nm, jn0, jn1, jn2, jn3, jn4, jn5, bnd1_s, bnd2_s, bnd3_s, bnd4_s, lit_n, neg1, chkI_n, chkZ_n, chkC_n, bI_B, chkB_0, chkB_1, bI_t, bI_f, clamp_n, nI_add, subn, remn2, nat_rem, divn, pk_mul, ifle_t, ifle_f, iflt_t, iflt_f, ifeq_t, ifeq_f, ifm_f, ifm_t, if_true, if_false, x1, e2]
        rfl
    · have hq : p + i = tB L Bt p := (rn_stop (fun z => k (by simpa using z.2))).symm.trans hr
      refine Or.inr ⟨_, rfl, fun rec => ?_⟩
      rw [← hq]
      obtain ⟨e2, e3⟩ := eb
      have hs := p_sortOf e3
      have g1 : (up2 xT 0 3 (nI (p + i))) 0 1 = nI L := by rw [up2_n (by decide)]; exact x1
      have gb : ∀ j, j < L → (up2 xT 0 3 (nI (p + i))) 1 j = nI (Bt j) ∧ Bt j < 256 := fun j hj => by rw [up2_r (by decide)]; exact xB j hj
      have e4 := (gb (p + i) c).1
      have tk := p_tok (xT := up2 xT 0 3 (nI (p + i))) g1 xL gb c
      unfold BX2_stepToToken_5
      simp (disch := omega) only [nm, jn0, jn1, jn2, jn3, jn4, jn5, bnd1_s, bnd2_s, bnd3_s, bnd4_s, lit_n, neg1, chkI_n, chkZ_n, chkC_n, bI_B, chkB_0, chkB_1, bI_t, bI_f, clamp_n, nI_add, subn, remn2, nat_rem, divn, pk_mul, ifle_t, ifle_f, iflt_t, iflt_f, ifeq_t, ifeq_f, ifm_f, ifm_t, if_true, if_false, x1, e2, g1, e4, hs, tk]
  · have hq : p + i = tB L Bt p := (rn_stop (fun z => c z.1)).symm.trans hr
    refine Or.inr ⟨_, rfl, fun rec => ?_⟩
    have ht : tE L Bt (p + i) = p + i := rn_stop (fun z => c z.1)
    rw [← hq, ht]
    have g1 : (up2 xT 0 3 (nI (p + i))) 0 1 = nI L := by rw [up2_n (by decide)]; exact x1
    unfold BX2_stepToToken_5
    simp (disch := omega) only [nm, jn0, jn1, jn2, jn3, jn4, jn5, bnd1_s, bnd2_s, bnd3_s, bnd4_s, lit_n, neg1, chkI_n, chkZ_n, chkC_n, bI_B, chkB_0, chkB_1, bI_t, bI_f, clamp_n, nI_add, subn, remn2, nat_rem, divn, pk_mul, ifle_t, ifle_f, iflt_t, iflt_f, ifeq_t, ifeq_f, ifm_f, ifm_t, if_true, if_false, x1, g1]
/-! words -/
def WN : List (List Nat) := [[103, 114, 101, 101, 110], [99, 114, 111, 112], [110, 97, 114, 114, 111, 119], [99, 97, 114, 116], [115, 116, 117, 99, 107], [119, 105, 100, 101], [112, 97, 116, 104], [102, 101, 117, 100], [108, 111, 116], [99, 108, 101, 97, 114], [97, 103, 101], [116, 117, 114, 110], [114, 101, 115, 116]]
def wN (k j : Nat) : Nat := (WN.getD k []).getD j 0
theorem wL_eq : ∀ k, k < 13 → wL k = (WN.getD k []).length := by decide
theorem wB_eq : ∀ k, k < 13 → ∀ j, j < 7 → wB k j &&& 255 = nI (wN k j) := by decide +kernel
theorem wL_6 : ∀ k, k < 13 → wL k ≤ 6 := by decide
theorem wN_l : ∀ k, k < 13 → ∀ j, j < wL k → 97 ≤ wN k j ∧ wN k j ≤ 122 := by decide +kernel
def isW (Bt : Nat → Nat) (b e k : Nat) : Bool := decide (e = b + wL k) && (fst1 (fun j => decide (Bt (b + j) ≠ wN k j)) (wL k)).isNone
theorem p_isWord {xT : GS} {L e ln b k : Nat} {Bt : Nat → Nat} (hX : XT xT L Bt e ln) (h3 : xT 0 3 = nI b) (hbe : b ≤ e) (heL : e ≤ L) (hk : k < 13) : MX2_isWord (wL k) (wB k) xT = some (bI (isW Bt b e k)) := by
  obtain ⟨x1, x2, x4, xL, xB⟩ := hX
  have h6 := wL_6 k hk
  have hq : Int32.ofNat (wL k) = nI (wL k) := rfl
  unfold MX2_isWord isW
  by_cases c : e = b + wL k
  · rw [decide_eq_true c, Bool.true_and]
    rw [hq]
    simp (disch := omega) only [nm, jn0, jn1, jn2, jn3, jn4, jn5, bnd1_s, bnd2_s, bnd3_s, bnd4_s, lit_n, neg1, chkI_n, chkZ_n, chkC_n, bI_B, chkB_0, chkB_1, bI_t, bI_f, clamp_n, nI_add, subn, remn2, nat_rem, divn, pk_mul, ifle_t, ifle_f, iflt_t, iflt_f, ifeq_t, ifeq_f, ifm_f, ifm_t, if_true, if_false, h3, x4]
    refine lq1_rel (fun i x => x = nI i ∧ fst1 (fun j => decide (Bt (b + j) ≠ wN k j)) i = none) (wL k) (fun r => r = some (bI (fst1 (fun j => decide (Bt (b + j) ≠ wN k j)) (wL k)).isNone)) ?_ _ ⟨rfl, rfl⟩ (FU_lt (by omega))
    rintro i x hi ⟨rfl, hn⟩
    by_cases d : i < wL k
    · obtain ⟨e1, e2⟩ := xB (b + i) (by omega)
      have e3 := wB_eq k hk i (by omega)
      have e4 := wN_l k hk i d
      have hs := fst1_s0 hn
      by_cases z : Bt (b + i) = wN k i
      · refine Or.inl ⟨d, nI (i + 1), ⟨rfl, by rw [hs]; simp [z]⟩, fun rec => ?_⟩
        unfold BX2_isWord_20
        rw [hq]
        have e5 : nI (Bt (b + i)) = wB k i &&& 255 := by rw [e3, z]
        simp (disch := omega) only [nm, jn0, jn1, jn2, jn3, jn4, jn5, bnd1_s, bnd2_s, bnd3_s, bnd4_s, lit_n, neg1, chkI_n, chkZ_n, chkC_n, bI_B, chkB_0, chkB_1, bI_t, bI_f, clamp_n, nI_add, subn, remn2, nat_rem, divn, pk_mul, ifle_t, ifle_f, iflt_t, iflt_f, ifeq_t, ifeq_f, ifm_f, ifm_t, if_true, if_false, h3, e1]
        rw [show wB k i &&& nI 255 = wB k i &&& 255 from rfl, if_pos e5]
      · have y : decide (Bt (b + i) ≠ wN k i) = true := by simpa using z
        have e6 := fst1_mono (m := wL k) (hs.trans (if_pos y)) (by omega)
        refine Or.inr ⟨_, rfl, fun rec => ?_⟩
        unfold BX2_isWord_20
        rw [hq, e6]
        have e5 : ¬ nI (Bt (b + i)) = wB k i &&& 255 := by
          rw [e3, nI_eq (by omega) (by omega)]; exact z
        simp (disch := omega) only [nm, jn0, jn1, jn2, jn3, jn4, jn5, bnd1_s, bnd2_s, bnd3_s, bnd4_s, lit_n, neg1, chkI_n, chkZ_n, chkC_n, bI_B, chkB_0, chkB_1, bI_t, bI_f, clamp_n, nI_add, subn, remn2, nat_rem, divn, pk_mul, ifle_t, ifle_f, iflt_t, iflt_f, ifeq_t, ifeq_f, ifm_f, ifm_t, if_true, if_false, h3, e1, Option.isNone_some]
        rw [show wB k i &&& nI 255 = wB k i &&& 255 from rfl, if_neg e5]
    · have : i = wL k := by omega
      rw [this] at hn ⊢
      refine Or.inr ⟨_, rfl, fun rec => ?_⟩
      unfold BX2_isWord_20
      rw [hq, hn]
      simp (disch := omega) only [nm, jn0, jn1, jn2, jn3, jn4, jn5, bnd1_s, bnd2_s, bnd3_s, bnd4_s, lit_n, neg1, chkI_n, chkZ_n, chkC_n, bI_B, chkB_0, chkB_1, bI_t, bI_f, clamp_n, nI_add, subn, remn2, nat_rem, divn, pk_mul, ifle_t, ifle_f, iflt_t, iflt_f, ifeq_t, ifeq_f, ifm_f, ifm_t, if_true, if_false, Option.isNone_none]
  · rw [decide_eq_false c, Bool.false_and]
    rw [hq]
    simp (disch := omega) only [nm, jn0, jn1, jn2, jn3, jn4, jn5, bnd1_s, bnd2_s, bnd3_s, bnd4_s, lit_n, neg1, chkI_n, chkZ_n, chkC_n, bI_B, chkB_0, chkB_1, bI_t, bI_f, clamp_n, nI_add, subn, remn2, nat_rem, divn, pk_mul, ifle_t, ifle_f, iflt_t, iflt_f, ifeq_t, ifeq_f, ifm_f, ifm_t, if_true, if_false, h3, x4]
