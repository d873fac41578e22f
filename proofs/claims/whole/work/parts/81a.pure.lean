/-! ===== the told and the standing, in numbers: T 0 = plots, houses, paths, feuds, law, seed; T 1 crop, T 2 kind, T 3 place, T 4 5 path, T 6 7 feud; S 1 place, S 2 rolled (night, 0: not), S 0 5 nights, S 0 6 turn, S 0 7 x ===== -/
abbrev NN : Type := Nat → Nat → Nat
def nx (p q : Nat) : Nat := if q + 1 < p then q + 1 else 0
def pv (p q : Nat) : Nat := if q = 0 then p - 1 else q - 1
def gr (p k q : Nat) : Nat := if k = 3 then 2 ^ q ||| 2 ^ nx p q else 2 ^ q
def ocN (T : NN) (P : Nat → Nat) : Nat → Nat
  | 0 => 0
  | n + 1 => ocN T P n ||| gr (T 0 0) (T 2 n) (P n)
def sOn (T : NN) (P : Nat → Nat) (h q : Nat) : Bool := P h == q || (T 2 h == 3 && nx (T 0 0) (P h) == q)
def dsj (T : NN) (P : Nat → Nat) : Prop := ∀ a b, a < T 0 1 → b < T 0 1 → a ≠ b → ∀ q, ¬ (sOn T P a q = true ∧ sOn T P b q = true)
def RT (tT : GS) (T : NN) : Prop := (tT 0 0 = nI (T 0 0) ∧ tT 0 1 = nI (T 0 1) ∧ tT 0 2 = nI (T 0 2) ∧ tT 0 3 = nI (T 0 3) ∧ tT 0 4 = nI (T 0 4) ∧ tT 0 5 = nI (T 0 5) ∧ tT 0 6 = nI (ocN T (T 3) (T 0 1))) ∧ (∀ q, q < 12 → tT 1 q = nI (T 1 q)) ∧ (∀ h, h < 8 → tT 2 h = nI (T 2 h)) ∧ (∀ h, h < 8 → tT 3 h = nI (T 3 h)) ∧ (∀ k, k < 6 → tT 4 k = nI (T 4 k)) ∧ (∀ k, k < 6 → tT 5 k = nI (T 5 k)) ∧ (∀ k, k < 6 → tT 6 k = nI (T 6 k)) ∧ (∀ k, k < 6 → tT 7 k = nI (T 7 k))
def IT (T : NN) : Prop := (3 ≤ T 0 0 ∧ T 0 0 ≤ 12 ∧ T 0 1 ≤ 8 ∧ T 0 2 ≤ 6 ∧ T 0 3 ≤ 6 ∧ T 0 4 ≤ 3 ∧ T 0 5 ≤ 9999) ∧ (∀ q, q < 12 → T 1 q ≤ 9) ∧ (∀ h, h < 8 → T 2 h ≤ 3) ∧ (∀ h, h < T 0 1 → T 3 h < T 0 0) ∧ (∀ k, k < T 0 2 → T 4 k < T 0 0 ∧ T 5 k < T 0 0) ∧ (∀ k, k < T 0 3 → T 6 k < T 0 1 ∧ T 7 k < T 0 1 ∧ T 6 k ≠ T 7 k) ∧ dsj T (T 3)
theorem nx_lt {p q : Nat} (h : 0 < p) : nx p q < p := by unfold nx; split <;> omega
theorem pv_lt {p q : Nat} (h : q < p) : pv p q < p := by unfold pv; split <;> omega
theorem two_lt {n m : Nat} (h : n < m) : 2 ^ n < 2 ^ m := Nat.pow_lt_pow_right (by decide) h
theorem two_12 {p : Nat} (h : p ≤ 12) : 2 ^ p ≤ 4096 := Nat.pow_le_pow_right (n := 2) (by decide) h
theorem or_lt {a b p : Nat} (ha : a < 2 ^ p) (hb : b < 2 ^ p) : a ||| b < 2 ^ p := Nat.or_lt_two_pow ha hb
theorem gr_lt {p k q : Nat} (hq : q < p) : gr p k q < 2 ^ p := by
  unfold gr
  split
  · exact or_lt (two_lt hq) (two_lt (nx_lt (by omega)))
  · exact two_lt hq
theorem ocN_lt {T : NN} {P : Nat → Nat} : ∀ {n : Nat}, (∀ h, h < n → P h < T 0 0) → ocN T P n < 2 ^ T 0 0 := by
  intro n
  induction n with
  | zero => intro _; exact Nat.two_pow_pos _
  | succ n ih => intro h; exact or_lt (ih fun i hi => h i (by omega)) (gr_lt (h n (by omega)))
theorem gr_t {p k q i : Nat} : (gr p k q).testBit i = (q == i || (k == 3 && nx p q == i)) := by
  unfold gr
  split
  · rename_i h
    subst h
    simp [Nat.testBit_or, Nat.testBit_two_pow, Bool.beq_eq_decide_eq]
  · rename_i h
    have : (k == 3) = false := by simpa using h
    simp [Nat.testBit_two_pow, this, Bool.beq_eq_decide_eq]
theorem ocN_t {T : NN} {P : Nat → Nat} {i : Nat} : ∀ {n : Nat}, (ocN T P n).testBit i = true ↔ ∃ h, h < n ∧ sOn T P h i = true := by
  intro n
  induction n with
  | zero => simp [ocN]
  | succ n ih =>
    unfold ocN
    rw [Nat.testBit_or, Bool.or_eq_true, ih, gr_t]
    constructor
    · rintro (⟨h, h1, h2⟩ | h)
      · exact ⟨h, by omega, h2⟩
      · exact ⟨n, by omega, h⟩
    · rintro ⟨h, h1, h2⟩
      by_cases c : h = n
      · subst c; exact Or.inr h2
      · exact Or.inl ⟨h, by omega, h2⟩
theorem p_next {tT : GS} {T : NN} (hT : RT tT T) (hI : IT T) {q : Nat} (hq : q < 100) : MX3_next tT (nI q) = some (nI (nx (T 0 0) q)) := by
  obtain ⟨⟨h0, -⟩, -⟩ := hT
  obtain ⟨⟨i0, i1, -⟩, -⟩ := hI
  unfold MX3_next nx
  by_cases c : q + 1 < T 0 0
  · simp (disch := omega) only [nm, jn0, jn1, jn2, jn3, jn4, jn5, bnd1_s, bnd2_s, bnd3_s, bnd4_s, lit_n, neg1, chkI_n, chkZ_n, chkC_n, bI_B, chkB_0, chkB_1, bI_t, bI_f, clamp_n, nI_add, subn, remn2, nat_rem, divn, pk_mul, ifle_t, ifle_f, iflt_t, iflt_f, ifeq_t, ifeq_f, ifm_f, ifm_t, if_true, if_false, h0, if_pos c]
  · simp (disch := omega) only [nm, jn0, jn1, jn2, jn3, jn4, jn5, bnd1_s, bnd2_s, bnd3_s, bnd4_s, lit_n, neg1, chkI_n, chkZ_n, chkC_n, bI_B, chkB_0, chkB_1, bI_t, bI_f, clamp_n, nI_add, subn, remn2, nat_rem, divn, pk_mul, ifle_t, ifle_f, iflt_t, iflt_f, ifeq_t, ifeq_f, ifm_f, ifm_t, if_true, if_false, h0, if_neg c]
theorem p_previous {tT : GS} {T : NN} (hT : RT tT T) (hI : IT T) {q : Nat} (hq : q < T 0 0) : MX3_previous tT (nI q) = some (nI (pv (T 0 0) q)) := by
  obtain ⟨⟨h0, -⟩, -⟩ := hT
  obtain ⟨⟨i0, i1, -⟩, -⟩ := hI
  unfold MX3_previous pv
  by_cases c : q = 0
  · subst c; simp (disch := omega) only [nm, jn0, jn1, jn2, jn3, jn4, jn5, bnd1_s, bnd2_s, bnd3_s, bnd4_s, lit_n, neg1, chkI_n, chkZ_n, chkC_n, bI_B, chkB_0, chkB_1, bI_t, bI_f, clamp_n, nI_add, subn, remn2, nat_rem, divn, pk_mul, ifle_t, ifle_f, iflt_t, iflt_f, ifeq_t, ifeq_f, ifm_f, ifm_t, if_true, if_false, h0]
  · simp (disch := omega) only [nm, jn0, jn1, jn2, jn3, jn4, jn5, bnd1_s, bnd2_s, bnd3_s, bnd4_s, lit_n, neg1, chkI_n, chkZ_n, chkC_n, bI_B, chkB_0, chkB_1, bI_t, bI_f, clamp_n, nI_add, subn, remn2, nat_rem, divn, pk_mul, ifle_t, ifle_f, iflt_t, iflt_f, ifeq_t, ifeq_f, ifm_f, ifm_t, if_true, if_false, h0, if_neg c]
theorem p_allPlots {tT : GS} {T : NN} (hT : RT tT T) (hI : IT T) : MX3_allPlots tT = some (nI (2 ^ T 0 0 - 1)) := by
  obtain ⟨⟨h0, -⟩, -⟩ := hT
  obtain ⟨⟨i0, i1, -⟩, -⟩ := hI
  have : 0 < 2 ^ T 0 0 := Nat.two_pow_pos _
  unfold MX3_allPlots
  simp (disch := omega) only [nm, jn0, jn1, jn2, jn3, jn4, jn5, bnd1_s, bnd2_s, bnd3_s, bnd4_s, lit_n, neg1, chkI_n, chkZ_n, chkC_n, bI_B, chkB_0, chkB_1, bI_t, bI_f, clamp_n, nI_add, subn, remn2, nat_rem, divn, pk_mul, ifle_t, ifle_f, iflt_t, iflt_f, ifeq_t, ifeq_f, ifm_f, ifm_t, if_true, if_false, h0, shl_1]
theorem p_ground {tT : GS} {T : NN} (hT : RT tT T) (hI : IT T) {k q : Nat} (hk : k ≤ 3) (hq : q < T 0 0) : MX3_ground tT (nI k) (nI q) = some (nI (gr (T 0 0) k q)) := by
  have i0 := hI.1.1
  have i1 := hI.1.2.1
  have hn := p_next hT hI (q := q) (by omega)
  have hl : nx (T 0 0) q < T 0 0 := nx_lt (by omega)
  unfold MX3_ground gr
  by_cases c : k = 3
  · subst c; simp (disch := omega) only [nm, jn0, jn1, jn2, jn3, jn4, jn5, bnd1_s, bnd2_s, bnd3_s, bnd4_s, lit_n, neg1, chkI_n, chkZ_n, chkC_n, bI_B, chkB_0, chkB_1, bI_t, bI_f, clamp_n, nI_add, subn, remn2, nat_rem, divn, pk_mul, ifle_t, ifle_f, iflt_t, iflt_f, ifeq_t, ifeq_f, ifm_f, ifm_t, if_true, if_false, hn, shl_1, fa_or]
  · simp (disch := omega) only [nm, jn0, jn1, jn2, jn3, jn4, jn5, bnd1_s, bnd2_s, bnd3_s, bnd4_s, lit_n, neg1, chkI_n, chkZ_n, chkC_n, bI_B, chkB_0, chkB_1, bI_t, bI_f, clamp_n, nI_add, subn, remn2, nat_rem, divn, pk_mul, ifle_t, ifle_f, iflt_t, iflt_f, ifeq_t, ifeq_f, ifm_f, ifm_t, if_true, if_false, shl_1, if_neg c]
def arnd (p b : Nat) : Nat := ((b * 2 ^ 1 ||| b / 2 ^ (p - 1)) ||| (b / 2 ^ 1 ||| b * 2 ^ (p - 1))) &&& (2 ^ p - 1)
theorem p_around {tT : GS} {T : NN} (hT : RT tT T) (hI : IT T) {b : Nat} (hb : b < 2 ^ T 0 0) : MX3_around tT (nI b) = some (nI (arnd (T 0 0) b)) := by
  have ha := p_allPlots hT hI
  obtain ⟨⟨h0, -⟩, -⟩ := hT
  obtain ⟨⟨i0, i1, -⟩, -⟩ := hI
  have e12 := two_12 i1
  have e11 : 2 ^ (T 0 0 - 1) ≤ 2 ^ 11 := Nat.pow_le_pow_right (n := 2) (by decide) (by omega)
  have e : b * 2 ^ (T 0 0 - 1) ≤ 4096 * 2 ^ 11 := Nat.mul_le_mul (by omega) e11
  unfold MX3_around arnd
  simp (disch := omega) only [nm, jn0, jn1, jn2, jn3, jn4, jn5, bnd1_s, bnd2_s, bnd3_s, bnd4_s, lit_n, neg1, chkI_n, chkZ_n, chkC_n, bI_B, chkB_0, chkB_1, bI_t, bI_f, clamp_n, nI_add, subn, remn2, nat_rem, divn, pk_mul, ifle_t, ifle_f, iflt_t, iflt_f, ifeq_t, ifeq_f, ifm_f, ifm_t, if_true, if_false, h0, shl_n, shr_n, ha]
  simp only [fa_or, fa_and]
def stN (T : NN) : Nat → Nat
  | 0 => 0
  | n + 1 => if T 2 n = 2 then stN T n ||| 2 ^ n else stN T n
theorem p_stuckOnes {tT : GS} {T : NN} (hT : RT tT T) (hI : IT T) : MX3_stuckOnes tT = some (nI (stN T (T 0 1))) := by
  obtain ⟨⟨h0, h1, -⟩, -, h2, -⟩ := hT
  obtain ⟨⟨i0, i1, i2, -⟩, -, ik, -⟩ := hI
  unfold MX3_stuckOnes jn1
  refine lq2_run (fun i => nI (stN T i)) nI (T 0 1) _ ?_ ?_ FU (FU_lt (by omega))
  · intro i hi rec
    have hk := ik i (by omega)
    have h2i := h2 i (by omega)
    unfold BX3_stuckOnes_4
    by_cases c : T 2 i = 2
    · simp (disch := omega) only [nm, jn0, jn1, jn2, jn3, jn4, jn5, bnd1_s, bnd2_s, bnd3_s, bnd4_s, lit_n, neg1, chkI_n, chkZ_n, chkC_n, bI_B, chkB_0, chkB_1, bI_t, bI_f, clamp_n, nI_add, subn, remn2, nat_rem, divn, pk_mul, ifle_t, ifle_f, iflt_t, iflt_f, ifeq_t, ifeq_f, ifm_f, ifm_t, if_true, if_false, h1, h2i, shl_1, fa_or, stN, if_pos c]
    · simp (disch := omega) only [nm, jn0, jn1, jn2, jn3, jn4, jn5, bnd1_s, bnd2_s, bnd3_s, bnd4_s, lit_n, neg1, chkI_n, chkZ_n, chkC_n, bI_B, chkB_0, chkB_1, bI_t, bI_f, clamp_n, nI_add, subn, remn2, nat_rem, divn, pk_mul, ifle_t, ifle_f, iflt_t, iflt_f, ifeq_t, ifeq_f, ifm_f, ifm_t, if_true, if_false, h1, h2i, stN, if_neg c]
  · intro rec
    unfold BX3_stuckOnes_4
    simp (disch := omega) only [nm, jn0, jn1, jn2, jn3, jn4, jn5, bnd1_s, bnd2_s, bnd3_s, bnd4_s, lit_n, neg1, chkI_n, chkZ_n, chkC_n, bI_B, chkB_0, chkB_1, bI_t, bI_f, clamp_n, nI_add, subn, remn2, nat_rem, divn, pk_mul, ifle_t, ifle_f, iflt_t, iflt_f, ifeq_t, ifeq_f, ifm_f, ifm_t, if_true, if_false, h1]
theorem p_fill (n : Nat) (hn : n < 1000) (f : Nat → Int32) (v : Int32) : ∃ f', MJ7_fill_53178 n f v = some f' ∧ ∀ q, q < n → f' q = v := by
  unfold MJ7_fill_53178
  simp only [nm, jn1]
  refine lq2_rel (fun i x (g : Nat → Int32) => x = nI i ∧ ∀ q, q < i → g q = v) n (fun r => ∃ f' : Nat → Int32, r = some f' ∧ ∀ q, q < n → f' q = v) ?_ _ _ ⟨rfl, fun q h => absurd h (Nat.not_lt_zero _)⟩ (FU_lt (by omega))
  rintro i x g hi ⟨rfl, hg⟩
  by_cases c : i < n
  · refine Or.inl ⟨c, nI (i + 1), upd g i v, ⟨rfl, fun q hq => ?_⟩, fun rec => ?_⟩
    · by_cases d : q = i
      · subst d; exact pk_us
      · rw [pk_un d]; exact hg q (by omega)
    · unfold BJ7_fill_53178_5
      rw [show Int32.ofNat n = nI n from rfl]
      simp (disch := omega) only [nm, jn0, jn1, jn2, jn3, jn4, jn5, bnd1_s, bnd2_s, bnd3_s, bnd4_s, lit_n, neg1, chkI_n, chkZ_n, chkC_n, bI_B, chkB_0, chkB_1, bI_t, bI_f, clamp_n, nI_add, subn, remn2, nat_rem, divn, pk_mul, ifle_t, ifle_f, iflt_t, iflt_f, ifeq_t, ifeq_f, ifm_f, ifm_t, if_true, if_false]
  · refine Or.inr ⟨some g, ⟨g, rfl, fun q hq => hg q (by omega)⟩, fun rec => ?_⟩
    unfold BJ7_fill_53178_5
    rw [show Int32.ofNat n = nI n from rfl]
    simp (disch := omega) only [nm, jn0, jn1, jn2, jn3, jn4, jn5, bnd1_s, bnd2_s, bnd3_s, bnd4_s, lit_n, neg1, chkI_n, chkZ_n, chkC_n, bI_B, chkB_0, chkB_1, bI_t, bI_f, clamp_n, nI_add, subn, remn2, nat_rem, divn, pk_mul, ifle_t, ifle_f, iflt_t, iflt_f, ifeq_t, ifeq_f, ifm_f, ifm_t, if_true, if_false]
theorem p_fillL (n : Nat) (hn : n < 10000) (f : Nat → Int64) (v : Int64) : ∃ f', MJ7_fill_d0a16 n f v = some f' ∧ ∀ q, q < n → f' q = v := by
  unfold MJ7_fill_d0a16
  simp only [nm, jn1]
  refine lq2_rel (fun i x (g : Nat → Int64) => x = nI i ∧ ∀ q, q < i → g q = v) n (fun r => ∃ f' : Nat → Int64, r = some f' ∧ ∀ q, q < n → f' q = v) ?_ _ _ ⟨rfl, fun q h => absurd h (Nat.not_lt_zero _)⟩ (FU_lt (by omega))
  rintro i x g hi ⟨rfl, hg⟩
  by_cases c : i < n
  · refine Or.inl ⟨c, nI (i + 1), vp_updL g i v, ⟨rfl, fun q hq => ?_⟩, fun rec => ?_⟩
    · by_cases d : q = i
      · subst d; exact pk_uLs
      · rw [pk_uLn d]; exact hg q (by omega)
    · unfold BJ7_fill_d0a16_6
      rw [show Int32.ofNat n = nI n from rfl]
      simp (disch := omega) only [nm, jn0, jn1, jn2, jn3, jn4, jn5, bnd1_s, bnd2_s, bnd3_s, bnd4_s, lit_n, neg1, chkI_n, chkZ_n, chkC_n, bI_B, chkB_0, chkB_1, bI_t, bI_f, clamp_n, nI_add, subn, remn2, nat_rem, divn, pk_mul, ifle_t, ifle_f, iflt_t, iflt_f, ifeq_t, ifeq_f, ifm_f, ifm_t, if_true, if_false]
  · refine Or.inr ⟨some g, ⟨g, rfl, fun q hq => hg q (by omega)⟩, fun rec => ?_⟩
    unfold BJ7_fill_d0a16_6
    rw [show Int32.ofNat n = nI n from rfl]
    simp (disch := omega) only [nm, jn0, jn1, jn2, jn3, jn4, jn5, bnd1_s, bnd2_s, bnd3_s, bnd4_s, lit_n, neg1, chkI_n, chkZ_n, chkC_n, bI_B, chkB_0, chkB_1, bI_t, bI_f, clamp_n, nI_add, subn, remn2, nat_rem, divn, pk_mul, ifle_t, ifle_f, iflt_t, iflt_f, ifeq_t, ifeq_f, ifm_f, ifm_t, if_true, if_false]
