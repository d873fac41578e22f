/-! ===== round: keys (the rows wb_ are kit/laws' own, pasted) ===== -/
theorem wb_tb (n : Nat) : (lN n).toBitVec = BitVec.ofNat 64 n := rfl
theorem wb_inj {a b : Int64} (h : a.toBitVec = b.toBitVec) : a = b := Int64.toBitVec_inj.mp h
theorem wb_tn {n : Nat} (h : n < 2 ^ 64) : (lN n).toBitVec.toNat = n := by rw [wb_tb, BitVec.toNat_ofNat, Nat.mod_eq_of_lt h]
theorem wb_of (x : Int64) : ∃ n, n < 2 ^ 64 ∧ x = lN n := ⟨x.toBitVec.toNat, x.toBitVec.isLt, wb_inj (by rw [wb_tb]; simp)⟩
theorem wb_of32 (x : Int32) : ∃ n, n < 2 ^ 32 ∧ x = nI n := ⟨x.toBitVec.toNat, x.toBitVec.isLt, Int32.toBitVec_inj.mp (by show _ = BitVec.ofNat 32 _; simp)⟩
theorem wb_c : ∀ k, k < 64 → ((nI k).toInt64 &&& 63) = lN k := by decide +kernel
theorem wb_cu : ∀ k, k < 64 → ((nI k).toInt64.toUInt64 &&& Int64.toUInt64 63) = UInt64.ofNat k := by decide +kernel
theorem wb_sm : ∀ k, k < 64 → (BitVec.ofNat 64 k).smod 64 = BitVec.ofNat 64 k := by decide +kernel
theorem wb_pw {a b : Nat} (h : a ≤ b) : 2 ^ b = 2 ^ a * 2 ^ (b - a) := by rw [← Nat.pow_add]; congr 1; omega
theorem wb_lt2 {a b : Nat} (h : a < b) : 2 ^ a < 2 ^ b := Nat.pow_lt_pow_right (by decide) h
theorem wb_mod (n : Nat) : lN n = lN (n % 2 ^ 64) := wb_inj (by rw [wb_tb, wb_tb]; apply BitVec.eq_of_toNat_eq; rw [BitVec.toNat_ofNat, BitVec.toNat_ofNat, Nat.mod_mod])
theorem wb_shr {n k : Nat} (hn : n < 2 ^ 64) (hk : k < 64) : ((lN n).toUInt64 >>> ((nI k).toInt64.toUInt64 &&& Int64.toUInt64 63)).toInt64 = lN (n / 2 ^ k) := by
  rw [wb_cu k hk]
  apply wb_inj
  apply BitVec.eq_of_toNat_eq
  show ((lN n).toUInt64 >>> UInt64.ofNat k).toNat = (BitVec.ofNat 64 _).toNat
  have h1 : (UInt64.ofNat k).toNat = k := by
    show (BitVec.ofNat 64 k).toNat = k
    rw [BitVec.toNat_ofNat, Nat.mod_eq_of_lt (by omega)]
  have h2 : (lN n).toUInt64.toNat = n := wb_tn hn
  rw [UInt64.toNat_shiftRight, h1, h2, Nat.mod_eq_of_lt hk, Nat.shiftRight_eq_div_pow, BitVec.toNat_ofNat, Nat.mod_eq_of_lt (Nat.lt_of_le_of_lt (Nat.div_le_self _ _) hn)]
theorem wb_shl (n : Nat) {k : Nat} (hk : k < 64) : lN n <<< ((nI k).toInt64 &&& 63) = lN (n * 2 ^ k) := by
  rw [wb_c k hk]
  apply wb_inj
  rw [Int64.toBitVec_shiftLeft, wb_tb, wb_tb, wb_tb, wb_sm k hk]
  apply BitVec.eq_of_toNat_eq
  rw [BitVec.shiftLeft_eq', BitVec.toNat_shiftLeft, BitVec.toNat_ofNat, BitVec.toNat_ofNat, BitVec.toNat_ofNat, Nat.mod_eq_of_lt (show k < 2 ^ 64 by omega), Nat.shiftLeft_eq, Nat.mul_mod, Nat.mod_mod, ← Nat.mul_mod]
theorem wb_and {a b : Nat} (ha : a < 2 ^ 64) (hb : b < 2 ^ 64) : lN a &&& lN b = lN (a &&& b) := by
  apply wb_inj
  rw [Int64.toBitVec_and, wb_tb, wb_tb, wb_tb]
  apply BitVec.eq_of_toNat_eq
  rw [BitVec.toNat_and, BitVec.toNat_ofNat, BitVec.toNat_ofNat, BitVec.toNat_ofNat, Nat.mod_eq_of_lt ha, Nat.mod_eq_of_lt hb, Nat.mod_eq_of_lt (Nat.and_lt_two_pow _ hb)]
theorem wb_or {a b : Nat} (ha : a < 2 ^ 64) (hb : b < 2 ^ 64) : lN a ||| lN b = lN (a ||| b) := by
  apply wb_inj
  rw [Int64.toBitVec_or, wb_tb, wb_tb, wb_tb]
  apply BitVec.eq_of_toNat_eq
  rw [BitVec.toNat_or, BitVec.toNat_ofNat, BitVec.toNat_ofNat, BitVec.toNat_ofNat, Nat.mod_eq_of_lt ha, Nat.mod_eq_of_lt hb, Nat.mod_eq_of_lt (Nat.or_lt_two_pow ha hb)]
theorem lN_inj {a b : Nat} (ha : a < 18446744073709551616) (hb : b < 18446744073709551616) : lN a = lN b ↔ a = b := by
  constructor
  · intro h
    have : (lN a).toBitVec.toNat = (lN b).toBitVec.toNat := by rw [h]
    rw [wb_tn (by simpa using ha), wb_tn (by simpa using hb)] at this
    exact this
  · intro h; rw [h]
theorem lcmp {x y : Int64} : lg_cmp x y = 0 ↔ x = y := by
  unfold lg_cmp
  by_cases c : x > y
  · rw [if_pos c]
    constructor
    · intro h; exact absurd h (by decide)
    · intro h; subst h; exact absurd c (by simp)
  · rw [if_neg c]
    by_cases d : x = y
    · rw [if_pos d]; exact ⟨fun _ => d, fun _ => rfl⟩
    · rw [if_neg d]
      constructor
      · intro h; exact absurd h (by decide)
      · intro h; exact absurd h d
theorem iflc_t {β : Type} {a b : Int64} {x y : β} {d : Decidable (lg_cmp a b = nI 0)} (h : a = b) : @ite _ (lg_cmp a b = nI 0) d x y = x := if_pos (lcmp.mpr h)
theorem iflc_f {β : Type} {a b : Int64} {x y : β} {d : Decidable (lg_cmp a b = nI 0)} (h : ¬ a = b) : @ite _ (lg_cmp a b = nI 0) d x y = y := if_neg (fun z => h (lcmp.mp z))
theorem or_add {a b i : Nat} (h : b < 2 ^ i) : a * 2 ^ i ||| b = a * 2 ^ i + b := by
  rw [Nat.mul_comm, ← Nat.two_pow_add_eq_or_of_lt h]
theorem key_s {a b i : Nat} (hi : i < 64) (h : b < 2 ^ i) (hb : b < 2147483648) (ha : a * 2 ^ i + b < 18446744073709551616) : (lN a <<< ((nI i).toInt64 &&& 63)) ||| (nI b).toInt64 = lN (a * 2 ^ i + b) := by
  have e : 18446744073709551616 = 2 ^ 64 := by decide
  rw [wb_shl a hi, nI_l (by simpa using hb), wb_or (by omega) (by omega), or_add h]
def pkk (P : Nat → Nat) : Nat → Nat
  | 0 => 0
  | n + 1 => pkk P n * 2 ^ 4 + P n
theorem pkk_lt {P : Nat → Nat} : ∀ {n : Nat}, (∀ h, h < n → P h < 12) → pkk P n < 16 ^ n := by
  intro n
  induction n with
  | zero => intro _; exact Nat.zero_lt_one
  | succ n ih =>
    intro h
    have h1 := ih fun a ha => h a (by omega)
    have h2 := h n (by omega)
    unfold pkk
    rw [Nat.pow_succ]
    omega
theorem pow16_le {n : Nat} (h : n ≤ 8) : 16 ^ n ≤ 4294967296 := Nat.pow_le_pow_right (n := 16) (by decide) h
theorem pow8_le {n : Nat} (h : n ≤ 8) : 8 ^ n ≤ 16777216 := Nat.pow_le_pow_right (n := 8) (by decide) h
theorem pkk_inj {P P' : Nat → Nat} : ∀ {n : Nat}, (∀ h, h < n → P h < 12) → (∀ h, h < n → P' h < 12) → (pkk P n = pkk P' n ↔ ∀ h, h < n → P h = P' h) := by
  intro n
  induction n with
  | zero => intro _ _; exact ⟨fun _ h hh => absurd hh (Nat.not_lt_zero _), fun _ => rfl⟩
  | succ n ih =>
    intro h1 h2
    have i := ih (fun a ha => h1 a (by omega)) (fun a ha => h2 a (by omega))
    have a1 := h1 n (by omega)
    have a2 := h2 n (by omega)
    unfold pkk
    constructor
    · intro e h hh
      have e1 : pkk P n = pkk P' n ∧ P n = P' n := by omega
      by_cases c : h = n
      · subst c; exact e1.2
      · exact i.mp e1.1 h (by omega)
    · intro e
      rw [i.mpr (fun h hh => e h (by omega)), e n (by omega)]
theorem p_placesKey {gS tT : GS} {T S : NN} {B : Nat} (hT : RT tT T) (hI : IT T) (hR : RS gS T S B) (hS : IS T S) : MX1_placesKey gS tT = some (lN (pkk (S 1) (T 0 1))) := by
  have i2 := hI.1.2.2.1
  have i1 := hI.1.2.1
  have t1 := hT.1.2.1
  unfold MX1_placesKey jn1
  refine lq2_run (fun i => lN (pkk (S 1) i)) nI (T 0 1) _ ?_ ?_ FU (FU_lt (by omega))
  · intro i hi rec
    have e := hR.1 i hi
    have l := hS.1 i hi
    have h1 := pkk_lt (P := S 1) (n := i) (fun h hh => by have := hS.1 h (by omega); omega)
    have h2 := pow16_le (n := i) (by omega)
    have k := key_s (a := pkk (S 1) i) (b := S 1 i) (i := 4) (by decide) (by omega) (by omega) (by omega)
    unfold BX1_placesKey_4
    simp (disch := omega) only [nm, jn0, jn1, jn2, jn3, jn4, jn5, bnd1_s, bnd2_s, bnd3_s, bnd4_s, lit_n, neg1, chkI_n, chkZ_n, chkC_n, bI_B, chkB_0, chkB_1, bI_t, bI_f, clamp_n, nI_add, subn, remn2, nat_rem, divn, pk_mul, ifle_t, ifle_f, iflt_t, iflt_f, ifeq_t, ifeq_f, ifm_f, ifm_t, if_true, if_false, t1, e, k]
    rfl
  · intro rec
    unfold BX1_placesKey_4
    simp (disch := omega) only [nm, jn0, jn1, jn2, jn3, jn4, jn5, bnd1_s, bnd2_s, bnd3_s, bnd4_s, lit_n, neg1, chkI_n, chkZ_n, chkC_n, bI_B, chkB_0, chkB_1, bI_t, bI_f, clamp_n, nI_add, subn, remn2, nat_rem, divn, pk_mul, ifle_t, ifle_f, iflt_t, iflt_f, ifeq_t, ifeq_f, ifm_f, ifm_t, if_true, if_false, t1]
def rnk (T S : NN) (h : Nat) : Nat := cnt (fun k => decide (S 2 k < S 2 h)) (T 0 1)
theorem cnt_miss {p : Nat → Bool} {h : Nat} (hp : p h = false) : ∀ {n : Nat}, h < n → cnt p n + 1 ≤ n := by
  intro n
  induction n with
  | zero => intro z; exact absurd z (Nat.not_lt_zero _)
  | succ n ih =>
    intro z
    unfold cnt
    by_cases c : h = n
    · subst c
      rw [hp]
      have := cnt_le (p := p) (n := h)
      simp only [cond_false]
      omega
    · have := ih (by omega)
      cases p n
      · simp only [cond_false]; omega
      · simp only [cond_true]; omega
theorem rnk_lt {T S : NN} {h : Nat} (hI : IT T) (hh : h < T 0 1) : rnk T S h < 8 := by
  have i2 := hI.1.2.2.1
  have := cnt_miss (p := fun k => decide (S 2 k < S 2 h)) (h := h) (by simp) hh
  unfold rnk
  omega
theorem p_restRank {gS tT : GS} {T S : NN} {B h : Nat} (hT : RT tT T) (hI : IT T) (hR : RS gS T S B) (hS : IS T S) (hN : S 0 5 < 100000) (hh : h < T 0 1) : MX1_restRank gS tT (nI h) = some (nI (rnk T S h)) := by
  have i2 := hI.1.2.2.1
  have t1 := hT.1.2.1
  have eh := hR.2.1 h hh
  have lh := hS.2.2.2.2 h hh
  unfold MX1_restRank jn1 rnk
  refine lq2_run (fun i => nI (cnt (fun k => decide (S 2 k < S 2 h)) i)) nI (T 0 1) _ ?_ ?_ FU (FU_lt (by omega))
  · intro i hi rec
    have ei := hR.2.1 i hi
    have li := hS.2.2.2.2 i hi
    unfold BX1_restRank_4
    show _ = rec (nI (cnt (fun k => decide (S 2 k < S 2 h)) i + (bif decide (S 2 i < S 2 h) then 1 else 0))) _
    by_cases c : S 2 i < S 2 h
    · rw [decide_eq_true c]
      simp (disch := omega) only [nm, jn0, jn1, jn2, jn3, jn4, jn5, bnd1_s, bnd2_s, bnd3_s, bnd4_s, lit_n, neg1, chkI_n, chkZ_n, chkC_n, bI_B, chkB_0, chkB_1, bI_t, bI_f, clamp_n, nI_add, subn, remn2, nat_rem, divn, pk_mul, ifle_t, ifle_f, iflt_t, iflt_f, ifeq_t, ifeq_f, ifm_f, ifm_t, if_true, if_false, t1, eh, ei, cond_true]
    · rw [decide_eq_false c]
      simp (disch := omega) only [nm, jn0, jn1, jn2, jn3, jn4, jn5, bnd1_s, bnd2_s, bnd3_s, bnd4_s, lit_n, neg1, chkI_n, chkZ_n, chkC_n, bI_B, chkB_0, chkB_1, bI_t, bI_f, clamp_n, nI_add, subn, remn2, nat_rem, divn, pk_mul, ifle_t, ifle_f, iflt_t, iflt_f, ifeq_t, ifeq_f, ifm_f, ifm_t, if_true, if_false, t1, eh, ei, cond_false, Nat.add_zero]
  · intro rec
    unfold BX1_restRank_4
    simp (disch := omega) only [nm, jn0, jn1, jn2, jn3, jn4, jn5, bnd1_s, bnd2_s, bnd3_s, bnd4_s, lit_n, neg1, chkI_n, chkZ_n, chkC_n, bI_B, chkB_0, chkB_1, bI_t, bI_f, clamp_n, nI_add, subn, remn2, nat_rem, divn, pk_mul, ifle_t, ifle_f, iflt_t, iflt_f, ifeq_t, ifeq_f, ifm_f, ifm_t, if_true, if_false, t1]
def rk (T S : NN) (a : Nat) : Nat → Nat
  | 0 => a
  | n + 1 => rk T S a n * 2 ^ 3 + rnk T S n
theorem rk_lt {T S : NN} (hI : IT T) {a : Nat} : ∀ {n : Nat}, n ≤ T 0 1 → rk T S a n < (a + 1) * 8 ^ n := by
  intro n
  induction n with
  | zero => intro _; simp [rk]
  | succ n ih =>
    intro h
    have h1 := ih (by omega)
    have h2 := rnk_lt (S := S) hI (h := n) (by omega)
    unfold rk
    have e : (a + 1) * 8 ^ (n + 1) = (a + 1) * 8 ^ n * 8 := by rw [Nat.pow_succ, Nat.mul_assoc]
    rw [e]
    omega
theorem rk_inj {T S S' : NN} (hI : IT T) {a a' : Nat} : ∀ {n : Nat}, n ≤ T 0 1 → (rk T S a n = rk T S' a' n ↔ a = a' ∧ ∀ h, h < n → rnk T S h = rnk T S' h) := by
  intro n
  induction n with
  | zero => intro _; exact ⟨fun h => ⟨h, fun h hh => absurd hh (Nat.not_lt_zero _)⟩, fun h => h.1⟩
  | succ n ih =>
    intro hn
    have i := ih (by omega)
    have a1 := rnk_lt (S := S) hI (h := n) (by omega)
    have a2 := rnk_lt (S := S') hI (h := n) (by omega)
    unfold rk
    constructor
    · intro e
      have e1 : rk T S a n = rk T S' a' n ∧ rnk T S n = rnk T S' n := by omega
      refine ⟨(i.mp e1.1).1, fun h hh => ?_⟩
      by_cases c : h = n
      · subst c; exact e1.2
      · exact (i.mp e1.1).2 h (by omega)
    · intro e
      rw [i.mpr ⟨e.1, fun h hh => e.2 h (by omega)⟩, e.2 n (by omega)]
def stK (T : NN) (law : Nat) (S : NN) : Nat := if law = 1 then pkk (S 1) (T 0 1) * 2 ^ 3 + S 0 6 else if law = 2 then rk T S (pkk (S 1) (T 0 1)) (T 0 1) else if law = 3 then pkk (S 1) (T 0 1) * 2 ^ 16 + S 0 7 else pkk (S 1) (T 0 1)
theorem pkk_b {T S : NN} (hI : IT T) (hS : IS T S) : pkk (S 1) (T 0 1) < 4294967296 := by
  have i2 := hI.1.2.2.1
  have i1 := hI.1.2.1
  have h1 := pkk_lt (P := S 1) (n := T 0 1) (fun h hh => by have := hS.1 h hh; omega)
  have h2 := pow16_le (n := T 0 1) (by omega)
  omega
theorem rk_b {T S : NN} (hI : IT T) {a n : Nat} (ha : a < 4294967296) (hn : n ≤ T 0 1) : rk T S a n < 72057594037927936 := by
  have i2 := hI.1.2.2.1
  have h1 := rk_lt (S := S) (a := a) hI hn
  have h2 := pow8_le (n := n) (by omega)
  have : (a + 1) * 8 ^ n ≤ 4294967296 * 16777216 := Nat.mul_le_mul (by omega) h2
  omega
theorem stK_b {T S : NN} {law : Nat} (hI : IT T) (hS : IS T S) : stK T law S < 18446744073709551616 := by
  have i2 := hI.1.2.2.1
  have h1 := pkk_b hI hS
  have s6 := hS.2.2.1
  have s7 := hS.2.2.2.1
  have h2 := rk_b (S := S) hI h1 (Nat.le_refl _)
  unfold stK
  split
  · omega
  · split
    · omega
    · split <;> omega
theorem p_stateKey {gS tT : GS} {T S : NN} {B law : Nat} (hT : RT tT T) (hI : IT T) (hR : RS gS T S B) (hS : IS T S) (hN : S 0 5 < 100000) (hlaw : law ≤ 3) : MX1_stateKey gS tT (nI law) = some (lN (stK T law S)) := by
  have i2 := hI.1.2.2.1
  have t1 := hT.1.2.1
  have hp := p_placesKey hT hI hR hS
  have h1 := pkk_b hI hS
  have s6 := hS.2.2.1
  have s7 := hS.2.2.2.1
  have e6 := hR.2.2.2.2.1
  have e7 := hR.2.2.2.2.2.1
  have k3 := key_s (a := pkk (S 1) (T 0 1)) (b := S 0 6) (i := 3) (by decide) (by omega) (by omega) (by omega)
  have k16 := key_s (a := pkk (S 1) (T 0 1)) (b := S 0 7) (i := 16) (by decide) (by omega) (by omega) (by omega)
  have hrest : MX1_restKey gS tT (lN (pkk (S 1) (T 0 1))) = some (lN (rk T S (pkk (S 1) (T 0 1)) (T 0 1))) := by
    unfold MX1_restKey jn1
    refine lq2_run (fun i => lN (rk T S (pkk (S 1) (T 0 1)) i)) nI (T 0 1) _ ?_ ?_ FU (FU_lt (by omega))
    · intro i hi rec
      have hr := p_restRank hT hI hR hS hN hi
      have l1 := rnk_lt (S := S) hI hi
      have l2 := rk_b (S := S) hI h1 (n := i) (by omega)
      have k := key_s (a := rk T S (pkk (S 1) (T 0 1)) i) (b := rnk T S i) (i := 3) (by decide) (by omega) (by omega) (by omega)
      unfold BX1_restKey_5
      simp (disch := omega) only [nm, jn0, jn1, jn2, jn3, jn4, jn5, bnd1_s, bnd2_s, bnd3_s, bnd4_s, lit_n, neg1, chkI_n, chkZ_n, chkC_n, bI_B, chkB_0, chkB_1, bI_t, bI_f, clamp_n, nI_add, subn, remn2, nat_rem, divn, pk_mul, ifle_t, ifle_f, iflt_t, iflt_f, ifeq_t, ifeq_f, ifm_f, ifm_t, if_true, if_false, t1, hr, k]
      rfl
    · intro rec
      unfold BX1_restKey_5
      simp (disch := omega) only [nm, jn0, jn1, jn2, jn3, jn4, jn5, bnd1_s, bnd2_s, bnd3_s, bnd4_s, lit_n, neg1, chkI_n, chkZ_n, chkC_n, bI_B, chkB_0, chkB_1, bI_t, bI_f, clamp_n, nI_add, subn, remn2, nat_rem, divn, pk_mul, ifle_t, ifle_f, iflt_t, iflt_f, ifeq_t, ifeq_f, ifm_f, ifm_t, if_true, if_false, t1]
  unfold MX1_stateKey stK
  by_cases c1 : law = 1
  · simp (disch := omega) only [nm, jn0, jn1, jn2, jn3, jn4, jn5, bnd1_s, bnd2_s, bnd3_s, bnd4_s, lit_n, neg1, chkI_n, chkZ_n, chkC_n, bI_B, chkB_0, chkB_1, bI_t, bI_f, clamp_n, nI_add, subn, remn2, nat_rem, divn, pk_mul, ifle_t, ifle_f, iflt_t, iflt_f, ifeq_t, ifeq_f, ifm_f, ifm_t, if_true, if_false, hp, e6, k3, if_pos c1]
  · by_cases c2 : law = 2
    · simp (disch := omega) only [nm, jn0, jn1, jn2, jn3, jn4, jn5, bnd1_s, bnd2_s, bnd3_s, bnd4_s, lit_n, neg1, chkI_n, chkZ_n, chkC_n, bI_B, chkB_0, chkB_1, bI_t, bI_f, clamp_n, nI_add, subn, remn2, nat_rem, divn, pk_mul, ifle_t, ifle_f, iflt_t, iflt_f, ifeq_t, ifeq_f, ifm_f, ifm_t, if_true, if_false, hp, hrest, if_neg c1, if_pos c2]
    · by_cases c3 : law = 3
      · simp (disch := omega) only [nm, jn0, jn1, jn2, jn3, jn4, jn5, bnd1_s, bnd2_s, bnd3_s, bnd4_s, lit_n, neg1, chkI_n, chkZ_n, chkC_n, bI_B, chkB_0, chkB_1, bI_t, bI_f, clamp_n, nI_add, subn, remn2, nat_rem, divn, pk_mul, ifle_t, ifle_f, iflt_t, iflt_f, ifeq_t, ifeq_f, ifm_f, ifm_t, if_true, if_false, hp, e7, k16, if_neg c1, if_neg c2, if_pos c3]
      · simp (disch := omega) only [nm, jn0, jn1, jn2, jn3, jn4, jn5, bnd1_s, bnd2_s, bnd3_s, bnd4_s, lit_n, neg1, chkI_n, chkZ_n, chkC_n, bI_B, chkB_0, chkB_1, bI_t, bI_f, clamp_n, nI_add, subn, remn2, nat_rem, divn, pk_mul, ifle_t, ifle_f, iflt_t, iflt_f, ifeq_t, ifeq_f, ifm_f, ifm_t, if_true, if_false, hp, if_neg c1, if_neg c2, if_neg c3]
