/-! the reference's nights -/
theorem rI_eq {r : Nat} (h : 0 < r) : rI r = nI (r - 1) := if_neg (by omega)
theorem rI_0 : rI 0 = mI := rfl
theorem rI_s (r : Nat) : rI (r + 1) = nI r := rfl
theorem rI_int {r : Nat} (h : r < 2147483648) : (rI r).toInt = (r : Int) - 1 := by
  cases r with
  | zero => decide
  | succ r => rw [rI_s, nI_toInt (by omega)]; omega
theorem rI_le {a b : Nat} (ha : a < 2147483648) (hb : b < 2147483648) : rI a ≤ rI b ↔ a ≤ b := by
  rw [Int32.le_iff_toInt_le, rI_int ha, rI_int hb]
  omega
theorem ifr_t {β : Type} {a b : Nat} {x y : β} {d : Decidable (rI a ≤ rI b)} (h : a ≤ b) (hb : b < 2147483648) : @ite _ (rI a ≤ rI b) d x y = x := if_pos ((rI_le (by omega) hb).mpr h)
theorem ifr_f {β : Type} {a b : Nat} {x y : β} {d : Decidable (rI a ≤ rI b)} (h : b < a) (ha : a < 2147483648) : @ite _ (rI a ≤ rI b) d x y = y := if_neg (fun z => by have := (rI_le ha (by omega)).mp z; omega)
theorem RN.congr {g : GS} {T S S' : NN} (h : RN g T S) (h1 : ∀ a, a < T 0 1 → S' 1 a = S 1 a) (h2 : ∀ a, a < T 0 1 → S' 2 a = S 2 a) (h5 : S' 0 5 = S 0 5) (h6 : S' 0 6 = S 0 6) (h7 : S' 0 7 = S 0 7) : RN g T S' := by
  obtain ⟨a, b, c, d, e⟩ := h
  exact ⟨fun q hq => by rw [h1 q hq]; exact a q hq, fun q hq => by rw [h2 q hq]; exact b q hq, by rw [h5]; exact c, by rw [h6]; exact d, by rw [h7]; exact e⟩
/-- a number of the standing's row is put -/
def p8 (g : GS) (k v : Nat) : GS := upA g 8 (upd (g 8) k (nI v))
theorem fNs_p8 {g : GS} {k v : Nat} : fNs g (p8 g k v) := fun i j _ h8 _ => by unfold p8; rw [upA_r h8]
theorem p8_s {g : GS} {k v : Nat} : p8 g k v 8 k = nI v := by unfold p8; rw [upA_s, pk_us]
theorem p8_n {g : GS} {k v j : Nat} (h : j ≠ k) : p8 g k v 8 j = g 8 j := by unfold p8; rw [upA_s, pk_un h]
theorem RN_16 {g : GS} {T S : NN} {v : Nat} (hI : IT T) (h : RN g T S) : RN (p8 g 16 v) T (tU S 0 5 v) := by
  have i2 := hI.1.2.2.1
  obtain ⟨a, b, c, d, e⟩ := h
  refine ⟨fun q hq => ?_, fun q hq => ?_, ?_, ?_, ?_⟩
  · rw [p8_n (by omega), a q hq]; simp [tU]
  · rw [p8_n (by omega), b q hq]; simp [tU]
  · rw [p8_s]; simp [tU]
  · rw [p8_n (by decide), d]; simp [tU]
  · rw [p8_n (by decide), e]; simp [tU]
theorem RN_17 {g : GS} {T S : NN} {v : Nat} (hI : IT T) (h : RN g T S) : RN (p8 g 17 v) T (tU S 0 6 v) := by
  have i2 := hI.1.2.2.1
  obtain ⟨a, b, c, d, e⟩ := h
  refine ⟨fun q hq => ?_, fun q hq => ?_, ?_, ?_, ?_⟩
  · rw [p8_n (by omega), a q hq]; simp [tU]
  · rw [p8_n (by omega), b q hq]; simp [tU]
  · rw [p8_n (by decide), c]; simp [tU]
  · rw [p8_s]; simp [tU]
  · rw [p8_n (by decide), e]; simp [tU]
theorem RN_18 {g : GS} {T S : NN} {v : Nat} (hI : IT T) (h : RN g T S) : RN (p8 g 18 v) T (tU S 0 7 v) := by
  have i2 := hI.1.2.2.1
  obtain ⟨a, b, c, d, e⟩ := h
  refine ⟨fun q hq => ?_, fun q hq => ?_, ?_, ?_, ?_⟩
  · rw [p8_n (by omega), a q hq]; simp [tU]
  · rw [p8_n (by omega), b q hq]; simp [tU]
  · rw [p8_n (by decide), c]; simp [tU]
  · rw [p8_n (by decide), d]; simp [tU]
  · rw [p8_s]; simp [tU]
theorem r_rollTo {mM : GS} {T S : NN} (hI : IT T) (hN : RN mM T S) {h q : Nat} (hh : h < T 0 1) : ∃ m', MX5_rollTo mM (nI h) (nI q) = some m' ∧ fNs mM m' ∧ RN m' T (tU (tU S 1 h q) 2 h (S 0 5 + 1)) := by
  have i2 := hI.1.2.2.1
  obtain ⟨a, b, c, d, e⟩ := hN
  unfold MX5_rollTo
  simp (disch := omega) only [nm, jn0, jn1, jn2, jn3, jn4, jn5, bnd1_s, bnd2_s, bnd3_s, bnd4_s, lit_n, neg1, chkI_n, chkZ_n, chkC_n, bI_B, chkB_0, chkB_1, bI_t, bI_f, clamp_n, nI_add, subn, remn2, nat_rem, divn, pk_mul, ifle_t, ifle_f, iflt_t, iflt_f, ifeq_t, ifeq_f, ifm_f, ifm_t, if_true, if_false, up2_s, up2_r, up2_n, upA_s, upA_r, pk_us, pk_un, cpy_n, c]
  refine ⟨_, rfl, fun i j _ h8 _ => ?_, fun x hx => ?_, fun x hx => ?_, ?_, ?_, ?_⟩
  · rw [upA_r h8, upA_r h8]
  · simp (disch := omega) only [up2_s, up2_r, up2_n, upA_s, upA_r, pk_us, pk_un, cpy_n]
    rw [upd_n (g := S 1) (a x hx)]; simp [tU]
  · rw [upA_s]
    by_cases k : x = h
    · subst k; rw [pk_us]; simp [tU, rI_s]
    · rw [pk_un (by omega), pk_un (by omega), b x hx]; simp [tU, k]
  · simp (disch := omega) only [up2_s, up2_r, up2_n, upA_s, upA_r, pk_us, pk_un, cpy_n, c]; simp [tU]
  · simp (disch := omega) only [up2_s, up2_r, up2_n, upA_s, upA_r, pk_us, pk_un, cpy_n, d]; simp [tU]
  · simp (disch := omega) only [up2_s, up2_r, up2_n, upA_s, upA_r, pk_us, pk_un, cpy_n, e]; simp [tU]
/-- the best so far, as the reference looks for it -/
def bst (T : NN) (law : Nat) (S : NN) (i : Nat) : Option Nat := if law = 2 then rst T S i else (fst1 (fun i => hasW T (S 1) (((if law = 1 then S 0 6 else 0) + i) % T 0 1)) i).map (fun i => ((if law = 1 then S 0 6 else 0) + i) % T 0 1)
theorem bst_lt {T S : NN} {law i b : Nat} (hn : 0 < T 0 1) (hi : i ≤ T 0 1) (h : bst T law S i = some b) : b < T 0 1 := by
  unfold bst at h
  split at h
  · have := (rst_lt h).1; omega
  · obtain ⟨a, h1, rfl⟩ := Option.map_eq_some_iff.mp h
    exact Nat.mod_lt _ hn
theorem bst_end {T S : NN} {law : Nat} : bst T law S (T 0 1) = rlr T law S := by
  unfold bst rlr fsH
  split
  · rfl
  · rfl
set_option maxHeartbeats 4000000 in
set_option maxRecDepth 4000 in
theorem r_rolls {mM : GS} {T S : NN} {law : Nat} (hM : RM mM T) (hI : IT T) (hN : RN mM T S) (hS : IS T S) (hl : mM 0 34 = nI law) (hlaw : law ≤ 3) (hNb : S 0 5 < 100000) : ∃ m', MX5_rolls mM = some (oI (rlr T law S), m') ∧ fWs mM m' := by
  have i2 := hI.1.2.2.1
  have s6 := hS.2.2.1
  have s5 := hS.2.2.2.2
  unfold MX5_rolls jn2
  rw [← bst_end]
  refine lq3_rel (fun i x y (g : GS) => x = oI (bst T law S i) ∧ y = nI i ∧ fWs mM g) (T 0 1) (fun r => ∃ m', r = some (oI (bst T law S (T 0 1)), m') ∧ fWs mM m') ?_ _ _ _ ⟨?_, rfl, fWs.refl⟩ (FU_lt (by omega))
  · rintro i x y g hi ⟨rfl, rfl, fg⟩
    have Mg := hM.fN fg.n
    have Ng := hN.fW fg
    have g1 := Mg.1.2.1
    by_cases c : i < T 0 1
    · obtain ⟨h, hh⟩ : ∃ h, h = ((if law = 1 then S 0 6 else 0) + i) % T 0 1 := ⟨_, rfl⟩
      have hhl : h < T 0 1 := by rw [hh]; exact Nat.mod_lt _ (by omega)
      have hi0 : law ≠ 1 → h = i := by
        intro k
        rw [hh, if_neg k, Nat.zero_add, Nat.mod_eq_of_lt c]
      obtain ⟨g', ha, fa, wa⟩ := r_layWays Mg hI Ng.1 hS.1 hhl
      have fg' := fg.trans fa
      have Ng' := hN.fW fg'
      have hw : hasW T (S 1) h = decide (0 < (ways T (S 1) h).length) := isE_len
      have hlen := ways_len (P := S 1) (h := h) hI
      have w0 := wa.1
      have e34 : g 0 34 = nI law := by rw [fg 0 34 (by decide) (by decide)]; exact hl
      have e34' : g' 0 34 = nI law := by rw [fg' 0 34 (by decide) (by decide)]; exact hl
      have e17 : g 8 17 = nI (S 0 6) := Ng.2.2.2.1
      have hst1 : law ≠ 2 → bst T law S (i + 1) = match bst T law S i with
        | some a => some a
        | none => if hasW T (S 1) h = true then some h else none := by
        intro k
        unfold bst
        rw [if_neg k, if_neg k, hh]
        rw [fst1]
        cases fst1 (fun i => hasW T (S 1) (((if law = 1 then S 0 6 else 0) + i) % T 0 1)) i with
        | some a => rfl
        | none =>
          by_cases z : hasW T (S 1) (((if law = 1 then S 0 6 else 0) + i) % T 0 1) = true
          · simp only [z, if_true]; rfl
          · simp only [z, Option.map_none]; rfl
      have hst2 : law = 2 → bst T law S (i + 1) = match bst T law S i with
        | none => if hasW T (S 1) i = true then some i else none
        | some b => if S 2 i < S 2 b ∧ hasW T (S 1) i = true then some i else some b := by
        intro k
        unfold bst
        rw [if_pos k, if_pos k]
        rfl
      refine Or.inl ⟨c, oI (bst T law S (i + 1)), nI (i + 1), g', ⟨rfl, rfl, fg'⟩, fun rec => ?_⟩
      have hcomp : ∀ (k : Int32 → Option (Int32 × GS)), jn1 k (fun k10 => if (g 0 34) = (1 : Int32) then (chkI (17 : Int32) 19 (chkZ (g 0 2) (k10 (((g 8 (17 : Int32).toNatClampNeg) + nI i) - ((g 8 (17 : Int32).toNatClampNeg) + nI i) / (g 0 2) * (g 0 2))))) else (k10 (nI i))) = k (nI h) := by
        intro k
        by_cases k1 : law = 1
        · simp (disch := omega) only [nm, jn0, jn1, jn2, jn3, jn4, jn5, bnd1_s, bnd2_s, bnd3_s, bnd4_s, lit_n, neg1, chkI_n, chkZ_n, chkC_n, bI_B, chkB_0, chkB_1, bI_t, bI_f, clamp_n, nI_add, subn, remn2, nat_rem, divn, pk_mul, ifle_t, ifle_f, iflt_t, iflt_f, ifeq_t, ifeq_f, ifm_f, ifm_t, if_true, if_false, e34, g1, e17]
          rw [hh, if_pos k1]
        · simp (disch := omega) only [nm, jn0, jn1, jn2, jn3, jn4, jn5, bnd1_s, bnd2_s, bnd3_s, bnd4_s, lit_n, neg1, chkI_n, chkZ_n, chkC_n, bI_B, chkB_0, chkB_1, bI_t, bI_f, clamp_n, nI_add, subn, remn2, nat_rem, divn, pk_mul, ifle_t, ifle_f, iflt_t, iflt_f, ifeq_t, ifeq_f, ifm_f, ifm_t, if_true, if_false, e34]
          rw [hi0 k1]
      unfold BX5_rolls_4
      rw [hcomp]
      by_cases k2 : law = 2
      · have := hi0 (by omega)
        subst this
        have ri := Ng'.2.1 h hhl
        have si := s5 h hhl
        cases e : bst T law S h with
        | none =>
          have := hst2 k2
          rw [e] at this
          by_cases d : 0 < (ways T (S 1) h).length
          · have e2 : bst T law S (h + 1) = some h := by rw [this, hw]; simp [d]
            rw [e2]
            simp (disch := omega) only [nm, jn0, jn1, jn2, jn3, jn4, jn5, bnd1_s, bnd2_s, bnd3_s, bnd4_s, lit_n, neg1, chkI_n, chkZ_n, chkC_n, bI_B, chkB_0, chkB_1, bI_t, bI_f, clamp_n, nI_add, subn, remn2, nat_rem, divn, pk_mul, ifle_t, ifle_f, iflt_t, iflt_f, ifeq_t, ifeq_f, ifm_f, ifm_t, if_true, if_false, g1, ha, w0, oI]
          · have e2 : bst T law S (h + 1) = none := by rw [this, hw]; simp [d]
            rw [e2]
            simp (disch := omega) only [nm, jn0, jn1, jn2, jn3, jn4, jn5, bnd1_s, bnd2_s, bnd3_s, bnd4_s, lit_n, neg1, chkI_n, chkZ_n, chkC_n, bI_B, chkB_0, chkB_1, bI_t, bI_f, clamp_n, nI_add, subn, remn2, nat_rem, divn, pk_mul, ifle_t, ifle_f, iflt_t, iflt_f, ifeq_t, ifeq_f, ifm_f, ifm_t, if_true, if_false, g1, ha, w0, oI]
        | some b =>
          have hbl := bst_lt (by omega) hi e
          have rb := Ng'.2.1 b hbl
          have sb := s5 b hbl
          have := hst2 k2
          rw [e] at this
          by_cases d : 0 < (ways T (S 1) h).length
          · by_cases z : S 2 h < S 2 b
            · have e2 : bst T law S (h + 1) = some h := by rw [this, hw]; simp [d, z]
              rw [e2]
              simp (disch := omega) only [nm, jn0, jn1, jn2, jn3, jn4, jn5, bnd1_s, bnd2_s, bnd3_s, bnd4_s, lit_n, neg1, chkI_n, chkZ_n, chkC_n, bI_B, chkB_0, chkB_1, bI_t, bI_f, clamp_n, nI_add, subn, remn2, nat_rem, divn, pk_mul, ifle_t, ifle_f, iflt_t, iflt_f, ifeq_t, ifeq_f, ifm_f, ifm_t, if_true, if_false, g1, ha, w0, oI, e34', ri, rb, ifr_f]
            · have e2 : bst T law S (h + 1) = some b := by rw [this, hw]; simp [z]
              rw [e2]
              simp (disch := omega) only [nm, jn0, jn1, jn2, jn3, jn4, jn5, bnd1_s, bnd2_s, bnd3_s, bnd4_s, lit_n, neg1, chkI_n, chkZ_n, chkC_n, bI_B, chkB_0, chkB_1, bI_t, bI_f, clamp_n, nI_add, subn, remn2, nat_rem, divn, pk_mul, ifle_t, ifle_f, iflt_t, iflt_f, ifeq_t, ifeq_f, ifm_f, ifm_t, if_true, if_false, g1, ha, w0, oI, e34', ri, rb, ifr_t]
          · have e2 : bst T law S (h + 1) = some b := by rw [this, hw]; simp [d]
            rw [e2]
            simp (disch := omega) only [nm, jn0, jn1, jn2, jn3, jn4, jn5, bnd1_s, bnd2_s, bnd3_s, bnd4_s, lit_n, neg1, chkI_n, chkZ_n, chkC_n, bI_B, chkB_0, chkB_1, bI_t, bI_f, clamp_n, nI_add, subn, remn2, nat_rem, divn, pk_mul, ifle_t, ifle_f, iflt_t, iflt_f, ifeq_t, ifeq_f, ifm_f, ifm_t, if_true, if_false, g1, ha, w0, oI]
      · cases e : bst T law S i with
        | none =>
          have := hst1 k2
          rw [e] at this
          by_cases d : 0 < (ways T (S 1) h).length
          · have e2 : bst T law S (i + 1) = some h := by rw [this, hw]; simp [d]
            rw [e2]
            simp (disch := omega) only [nm, jn0, jn1, jn2, jn3, jn4, jn5, bnd1_s, bnd2_s, bnd3_s, bnd4_s, lit_n, neg1, chkI_n, chkZ_n, chkC_n, bI_B, chkB_0, chkB_1, bI_t, bI_f, clamp_n, nI_add, subn, remn2, nat_rem, divn, pk_mul, ifle_t, ifle_f, iflt_t, iflt_f, ifeq_t, ifeq_f, ifm_f, ifm_t, if_true, if_false, g1, ha, w0, oI]
          · have e2 : bst T law S (i + 1) = none := by rw [this, hw]; simp [d]
            rw [e2]
            simp (disch := omega) only [nm, jn0, jn1, jn2, jn3, jn4, jn5, bnd1_s, bnd2_s, bnd3_s, bnd4_s, lit_n, neg1, chkI_n, chkZ_n, chkC_n, bI_B, chkB_0, chkB_1, bI_t, bI_f, clamp_n, nI_add, subn, remn2, nat_rem, divn, pk_mul, ifle_t, ifle_f, iflt_t, iflt_f, ifeq_t, ifeq_f, ifm_f, ifm_t, if_true, if_false, g1, ha, w0, oI]
        | some b =>
          have hbl := bst_lt (by omega) hi e
          have e2 : bst T law S (i + 1) = some b := by rw [hst1 k2, e]
          rw [e2]
          by_cases d : 0 < (ways T (S 1) h).length
          · simp (disch := omega) only [nm, jn0, jn1, jn2, jn3, jn4, jn5, bnd1_s, bnd2_s, bnd3_s, bnd4_s, lit_n, neg1, chkI_n, chkZ_n, chkC_n, bI_B, chkB_0, chkB_1, bI_t, bI_f, clamp_n, nI_add, subn, remn2, nat_rem, divn, pk_mul, ifle_t, ifle_f, iflt_t, iflt_f, ifeq_t, ifeq_f, ifm_f, ifm_t, if_true, if_false, g1, ha, w0, oI, e34']
          · simp (disch := omega) only [nm, jn0, jn1, jn2, jn3, jn4, jn5, bnd1_s, bnd2_s, bnd3_s, bnd4_s, lit_n, neg1, chkI_n, chkZ_n, chkC_n, bI_B, chkB_0, chkB_1, bI_t, bI_f, clamp_n, nI_add, subn, remn2, nat_rem, divn, pk_mul, ifle_t, ifle_f, iflt_t, iflt_f, ifeq_t, ifeq_f, ifm_f, ifm_t, if_true, if_false, g1, ha, w0, oI]
    · have : i = T 0 1 := by omega
      subst this
      refine Or.inr ⟨_, ⟨g, rfl, fg⟩, fun rec => ?_⟩
      unfold BX5_rolls_4
      simp (disch := omega) only [nm, jn0, jn1, jn2, jn3, jn4, jn5, bnd1_s, bnd2_s, bnd3_s, bnd4_s, lit_n, neg1, chkI_n, chkZ_n, chkC_n, bI_B, chkB_0, chkB_1, bI_t, bI_f, clamp_n, nI_add, subn, remn2, nat_rem, divn, pk_mul, ifle_t, ifle_f, iflt_t, iflt_f, ifeq_t, ifeq_f, ifm_f, ifm_t, if_true, if_false, g1]
  · unfold bst
    split <;> rfl
