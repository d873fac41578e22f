/-! ===== the pure side: numbers ===== -/
def mI : Int32 := -1
def bI (b : Bool) : Int32 := nI (bif b then 1 else 0)
theorem bI_t : bI true = nI 1 := Eq.trans rfl rfl
theorem bI_f : bI false = nI 0 := Eq.trans rfl rfl
theorem bI_B {β : Type} {b : Bool} {k : Option β} : chkB (bI b) k = k := by cases b <;> simp [bI, nI, chkB]
theorem chkB_1 {β : Type} {k : Option β} : chkB (nI 1) k = k := bI_B (b := true)
theorem chkB_0 {β : Type} {k : Option β} : chkB (nI 0) k = k := bI_B (b := false)
theorem lit_n (n : Nat) : (OfNat.ofNat n : Int32) = nI (OfNat.ofNat n) := Eq.trans rfl rfl
theorem clamp_n {n : Nat} (h : n < 2147483648) : (nI n).toNatClampNeg = n := nI_clamp h
theorem chkI_n {β : Type} {i n : Nat} {k : Option β} (h : i < n) (hn : n < 2147483648) : chkI (nI i) n k = k := by
  unfold chkI
  exact if_neg (nI_in h hn)
theorem chkZ_n {β : Type} {i : Nat} {k : Option β} (h : 0 < i) (hn : i < 2147483648) : chkZ (nI i) k = k := by
  unfold chkZ
  exact if_neg (nI_ne0 h hn)
theorem chkC_n {β : Type} {n n0 n1 : Nat} {k : Option β} (h : n ≤ n0) (h1 : n ≤ n1) (hn : n0 < 2147483648) (hn1 : n1 < 2147483648) : chkC (nI 0) (nI 0) (nI n) n0 n1 k = k := by
  unfold chkC
  refine if_neg ?_
  have e0 : ¬ nI 0 < 0 := nI_pos (by decide)
  have e1 : ¬ nI n < 0 := nI_pos (by omega)
  have e2 : (nI 0).toNatClampNeg = 0 := nI_clamp (by decide)
  have e3 : (nI n).toNatClampNeg = n := nI_clamp (by omega)
  rw [e2, e3]
  simp only [e0, e1, false_or]
  omega
theorem ifle_t {β : Type} {a b : Nat} {x y : β} {d : Decidable (nI a ≤ nI b)} (h : a ≤ b) (hb : b < 2147483648) : @ite _ (nI a ≤ nI b) d x y = x := if_pos (nI_le h hb)
theorem ifle_f {β : Type} {a b : Nat} {x y : β} {d : Decidable (nI a ≤ nI b)} (h : b < a) (hb : a < 2147483648) : @ite _ (nI a ≤ nI b) d x y = y := if_neg (nI_ge h hb)
theorem iflt_t {β : Type} {a b : Nat} {x y : β} {d : Decidable (nI a < nI b)} (h : a < b) (hb : b < 2147483648) : @ite _ (nI a < nI b) d x y = x := if_pos (nI_lt h hb)
theorem iflt_f {β : Type} {a b : Nat} {x y : β} {d : Decidable (nI a < nI b)} (h : b ≤ a) (hb : a < 2147483648) : @ite _ (nI a < nI b) d x y = y := if_neg (nI_nlt h hb)
theorem ifeq_t {β : Type} {a b : Nat} {x y : β} {d : Decidable (nI a = nI b)} (h : a = b) : @ite _ (nI a = nI b) d x y = x := if_pos (by rw [h])
theorem ifeq_f {β : Type} {a b : Nat} {x y : β} {d : Decidable (nI a = nI b)} (h : a ≠ b) (ha : a < 2147483648) (hb : b < 2147483648) : @ite _ (nI a = nI b) d x y = y := if_neg (fun z => h ((nI_eq ha hb).mp z))
theorem neg1 : -nI 1 = mI := Eq.trans rfl rfl
theorem nI_m1 {n : Nat} (hn : n < 2147483648) : (nI n = mI) = False := by
  refine eq_false fun h => ?_
  have := congrArg Int32.toInt h
  rw [nI_toInt (by simpa using hn)] at this
  have e : (mI : Int32).toInt = -1 := by decide
  omega
theorem m1_nI {n : Nat} (hn : n < 2147483648) : (mI = nI n) = False := by
  rw [← nI_m1 hn]
  exact propext ⟨Eq.symm, Eq.symm⟩
theorem ifm_f {β : Type} {n : Nat} {x y : β} {d : Decidable (nI n = mI)} (hn : n < 2147483648) : @ite _ (nI n = mI) d x y = y := if_neg (by rw [nI_m1 hn]; exact id)
theorem ifm_t {β : Type} {x y : β} {d : Decidable (mI = mI)} : @ite _ (mI = mI) d x y = x := if_pos rfl
theorem ifle0 {β : Type} {n : Nat} {x y : β} {d : Decidable (nI 0 ≤ nI n)} (hn : n < 2147483648) : @ite _ (nI 0 ≤ nI n) d x y = x := ifle_t (Nat.zero_le _) hn
theorem ltm {n : Nat} (hn : n < 2147483648) : mI < nI n := by
  rw [Int32.lt_iff_toInt_lt, nI_toInt (by simpa using hn)]
  have e : (mI : Int32).toInt = -1 := by decide
  omega
theorem iflt_m {β : Type} {x y : β} {n : Nat} {d : Decidable (nI n < mI)} (hn : n < 2147483648) : @ite _ (nI n < mI) d x y = y := if_neg (by
  intro h
  rw [Int32.lt_iff_toInt_lt, nI_toInt (by simpa using hn)] at h
  have e : (mI : Int32).toInt = -1 := by decide
  omega)
theorem addm {n : Nat} (h : 0 < n) : nI n + mI = nI (n - 1) := by
  obtain ⟨m, rfl⟩ : ∃ m, n = m + 1 := ⟨n - 1, by omega⟩
  exact pk_m1 m
theorem add0 (n : Nat) : nI n + 0 = nI n := nI_add n 0
theorem subn {a b : Nat} (h : b ≤ a) : nI a - nI b = nI (a - b) := pk_sub h
theorem remn {a d : Nat} (ha : a < 2147483648) (h0 : 0 < d) (hd : d < 2147483648) : nI a - nI a / nI d * nI d = nI (a % d) := pk_rem ha h0 hd
theorem nat_rem (a d : Nat) : a - a / d * d = a % d := by
  have := Nat.div_add_mod a d
  rw [Nat.mul_comm] at this
  omega
theorem remn2 (a d : Nat) : nI a - nI (a / d * d) = nI (a % d) := by
  rw [subn (Nat.div_mul_le_self a d), nat_rem]
theorem divn {a d : Nat} (ha : a < 2147483648) (h0 : 0 < d) (hd : d < 2147483648) : nI a / nI d = nI (a / d) := pk_div ha h0 hd
/-! bits -/
theorem nI_bv (n : Nat) : (nI n).toBitVec = BitVec.ofNat 32 n := rfl
theorem s_l : ∀ n, n < 32 → ((nI n &&& 31).toBitVec.smod 32).toNat = n := by decide +kernel
theorem fa_and (a b : Nat) : nI a &&& nI b = nI (a &&& b) := by
  apply Int32.toBitVec_inj.1
  show BitVec.ofNat 32 a &&& BitVec.ofNat 32 b = BitVec.ofNat 32 (a &&& b)
  apply BitVec.eq_of_getLsbD_eq
  intro i hi
  simp [hi]
theorem fa_or (a b : Nat) : nI a ||| nI b = nI (a ||| b) := by
  apply Int32.toBitVec_inj.1
  show BitVec.ofNat 32 a ||| BitVec.ofNat 32 b = BitVec.ofNat 32 (a ||| b)
  apply BitVec.eq_of_getLsbD_eq
  intro i hi
  simp [hi]
theorem shl_1 {q : Nat} (h : q < 31) : nI 1 <<< (nI q &&& nI 31) = nI (2 ^ q) := by
  have := pk_shlN (n := 1) (nI q &&& 31) q (s_l q (by omega)) (by
    have : 2 ^ q ≤ 2 ^ 30 := Nat.pow_le_pow_right (by decide) (by omega)
    omega)
  rw [Nat.one_mul] at this
  exact this
theorem shl_n {a q : Nat} (h : q < 31) (ha : a * 2 ^ q < 4294967296) : nI a <<< (nI q &&& nI 31) = nI (a * 2 ^ q) := pk_shlN (n := a) (nI q &&& 31) q (s_l q (by omega)) ha
theorem shr_n {a q : Nat} (h : q < 31) (ha : a < 2147483648) : nI a >>> (nI q &&& nI 31) = nI (a / 2 ^ q) := pk_shrN ha (nI q &&& 31) q (s_l q (by omega))
theorem bit_n {a q : Nat} (h : q < 31) (ha : a < 2147483648) : (nI a >>> (nI q &&& nI 31)) &&& nI 1 = bI (a.testBit q) := by
  rw [shr_n h ha, fa_and, Nat.testBit_eq_decide_div_mod_eq]
  rw [show (1 : Nat) = 2 ^ 1 - 1 from rfl, Nat.and_two_pow_sub_one_eq_mod]
  have : a / 2 ^ q % 2 = 0 ∨ a / 2 ^ q % 2 = 1 := by omega
  rcases this with e | e <;> simp [e, bI]
def anN (a b : Nat) : Nat := a ^^^ (a &&& b)
theorem anN_t {a b i : Nat} : (anN a b).testBit i = (a.testBit i && !b.testBit i) := by
  unfold anN
  rw [Nat.testBit_xor, Nat.testBit_and]
  cases a.testBit i <;> cases b.testBit i <;> rfl
theorem andnot (a b : Nat) : nI a &&& (nI b ^^^ mI) = nI (anN a b) := by
  refine Int32.toBitVec_inj.mp ?_
  have e : (mI : Int32).toBitVec = BitVec.allOnes 32 := by decide
  rw [Int32.toBitVec_and, Int32.toBitVec_xor, nI_bv, nI_bv, nI_bv, e]
  refine BitVec.eq_of_getLsbD_eq fun i hi => ?_
  simp only [BitVec.getLsbD_and, BitVec.getLsbD_xor, BitVec.getLsbD_ofNat, BitVec.getLsbD_allOnes, anN_t, hi, decide_true, Bool.true_and]
  cases a.testBit i <;> cases b.testBit i <;> rfl
/-! ===== for-loops ===== -/
theorem lq1_run {A1 β : Type} {f : (A1 → Option β) → A1 → Option β} (s1 : Nat → A1) (N : Nat) (R : Option β) (hs : ∀ i, i < N → ∀ rec, f rec (s1 i) = rec (s1 (i + 1))) (he : ∀ rec, f rec (s1 N) = R) : ∀ n, N < n → lq1 f n (s1 0) = R := by
  have key : ∀ d i n, i + d = N → d < n → lq1 f n (s1 i) = R := by
    intro d
    induction d with
    | zero =>
      intro i n hi hn
      obtain ⟨m, rfl⟩ : ∃ m, n = m + 1 := ⟨n - 1, by omega⟩
      have : i = N := by omega
      subst this
      exact he _
    | succ d ih =>
      intro i n hi hn
      obtain ⟨m, rfl⟩ : ∃ m, n = m + 1 := ⟨n - 1, by omega⟩
      show f (lq1 f m) (s1 i) = R
      rw [hs i (by omega)]
      exact ih (i + 1) m (by omega) (by omega)
  exact fun n hn => key N 0 n (by omega) hn
theorem lq2_run {A1 A2 β : Type} {f : (A1 → A2 → Option β) → A1 → A2 → Option β} (s1 : Nat → A1) (s2 : Nat → A2) (N : Nat) (R : Option β) (hs : ∀ i, i < N → ∀ rec, f rec (s1 i) (s2 i) = rec (s1 (i + 1)) (s2 (i + 1))) (he : ∀ rec, f rec (s1 N) (s2 N) = R) : ∀ n, N < n → lq2 f n (s1 0) (s2 0) = R := by
  have key : ∀ d i n, i + d = N → d < n → lq2 f n (s1 i) (s2 i) = R := by
    intro d
    induction d with
    | zero =>
      intro i n hi hn
      obtain ⟨m, rfl⟩ : ∃ m, n = m + 1 := ⟨n - 1, by omega⟩
      have : i = N := by omega
      subst this
      exact he _
    | succ d ih =>
      intro i n hi hn
      obtain ⟨m, rfl⟩ : ∃ m, n = m + 1 := ⟨n - 1, by omega⟩
      show f (lq2 f m) (s1 i) (s2 i) = R
      rw [hs i (by omega)]
      exact ih (i + 1) m (by omega) (by omega)
  exact fun n hn => key N 0 n (by omega) hn
theorem bI_n (b : Bool) : bI b = nI (bif b then 1 else 0) := rfl
theorem FU_lt {n : Nat} (h : n < 1000000000000) : n < FU := Nat.lt_of_lt_of_le h FU_ge
theorem lq1_rel {A1 β : Type} {f : (A1 → Option β) → A1 → Option β} (I : Nat → A1 → Prop) (N : Nat) (Q : Option β → Prop) (hs : ∀ (i : Nat) (a1 : A1), i ≤ N → I i a1 → (i < N ∧ ∃ (b1 : A1), I (i + 1) b1 ∧ ∀ rec, f rec a1 = rec b1) ∨ (∃ r, Q r ∧ ∀ rec, f rec a1 = r)) (a1 : A1) (h0 : I 0 a1) (hN : N < FU) : Q (lq1 f FU a1) := by
  have key : ∀ (d i n : Nat) (a1 : A1), i + d = N → d < n → I i a1 → Q (lq1 f n a1) := by
    intro d
    induction d with
    | zero =>
      intro i n a1 hi hn hI
      obtain ⟨m, rfl⟩ : ∃ m, n = m + 1 := ⟨n - 1, by omega⟩
      rcases hs i a1 (by omega) hI with ⟨hlt, _⟩ | ⟨r, hr, e⟩
      · omega
      · show Q (f (lq1 f m) a1)
        rw [e]
        exact hr
    | succ d ih =>
      intro i n a1 hi hn hI
      obtain ⟨m, rfl⟩ : ∃ m, n = m + 1 := ⟨n - 1, by omega⟩
      show Q (f (lq1 f m) a1)
      rcases hs i a1 (by omega) hI with ⟨hlt, b1, hb, e⟩ | ⟨r, hr, e⟩
      · rw [e]
        exact ih (i + 1) m b1 (by omega) (by omega) hb
      · rw [e]
        exact hr
  exact key N 0 FU a1 (by omega) hN h0
theorem lq2_rel {A1 A2 β : Type} {f : (A1 → A2 → Option β) → A1 → A2 → Option β} (I : Nat → A1 → A2 → Prop) (N : Nat) (Q : Option β → Prop) (hs : ∀ (i : Nat) (a1 : A1) (a2 : A2), i ≤ N → I i a1 a2 → (i < N ∧ ∃ (b1 : A1) (b2 : A2), I (i + 1) b1 b2 ∧ ∀ rec, f rec a1 a2 = rec b1 b2) ∨ (∃ r, Q r ∧ ∀ rec, f rec a1 a2 = r)) (a1 : A1) (a2 : A2) (h0 : I 0 a1 a2) (hN : N < FU) : Q (lq2 f FU a1 a2) := by
  have key : ∀ (d i n : Nat) (a1 : A1) (a2 : A2), i + d = N → d < n → I i a1 a2 → Q (lq2 f n a1 a2) := by
    intro d
    induction d with
    | zero =>
      intro i n a1 a2 hi hn hI
      obtain ⟨m, rfl⟩ : ∃ m, n = m + 1 := ⟨n - 1, by omega⟩
      rcases hs i a1 a2 (by omega) hI with ⟨hlt, _⟩ | ⟨r, hr, e⟩
      · omega
      · show Q (f (lq2 f m) a1 a2)
        rw [e]
        exact hr
    | succ d ih =>
      intro i n a1 a2 hi hn hI
      obtain ⟨m, rfl⟩ : ∃ m, n = m + 1 := ⟨n - 1, by omega⟩
      show Q (f (lq2 f m) a1 a2)
      rcases hs i a1 a2 (by omega) hI with ⟨hlt, b1, b2, hb, e⟩ | ⟨r, hr, e⟩
      · rw [e]
        exact ih (i + 1) m b1 b2 (by omega) (by omega) hb
      · rw [e]
        exact hr
  exact key N 0 FU a1 a2 (by omega) hN h0
theorem lq3_rel {A1 A2 A3 β : Type} {f : (A1 → A2 → A3 → Option β) → A1 → A2 → A3 → Option β} (I : Nat → A1 → A2 → A3 → Prop) (N : Nat) (Q : Option β → Prop) (hs : ∀ (i : Nat) (a1 : A1) (a2 : A2) (a3 : A3), i ≤ N → I i a1 a2 a3 → (i < N ∧ ∃ (b1 : A1) (b2 : A2) (b3 : A3), I (i + 1) b1 b2 b3 ∧ ∀ rec, f rec a1 a2 a3 = rec b1 b2 b3) ∨ (∃ r, Q r ∧ ∀ rec, f rec a1 a2 a3 = r)) (a1 : A1) (a2 : A2) (a3 : A3) (h0 : I 0 a1 a2 a3) (hN : N < FU) : Q (lq3 f FU a1 a2 a3) := by
  have key : ∀ (d i n : Nat) (a1 : A1) (a2 : A2) (a3 : A3), i + d = N → d < n → I i a1 a2 a3 → Q (lq3 f n a1 a2 a3) := by
    intro d
    induction d with
    | zero =>
      intro i n a1 a2 a3 hi hn hI
      obtain ⟨m, rfl⟩ : ∃ m, n = m + 1 := ⟨n - 1, by omega⟩
      rcases hs i a1 a2 a3 (by omega) hI with ⟨hlt, _⟩ | ⟨r, hr, e⟩
      · omega
      · show Q (f (lq3 f m) a1 a2 a3)
        rw [e]
        exact hr
    | succ d ih =>
      intro i n a1 a2 a3 hi hn hI
      obtain ⟨m, rfl⟩ : ∃ m, n = m + 1 := ⟨n - 1, by omega⟩
      show Q (f (lq3 f m) a1 a2 a3)
      rcases hs i a1 a2 a3 (by omega) hI with ⟨hlt, b1, b2, b3, hb, e⟩ | ⟨r, hr, e⟩
      · rw [e]
        exact ih (i + 1) m b1 b2 b3 (by omega) (by omega) hb
      · rw [e]
        exact hr
  exact key N 0 FU a1 a2 a3 (by omega) hN h0
theorem lq4_rel {A1 A2 A3 A4 β : Type} {f : (A1 → A2 → A3 → A4 → Option β) → A1 → A2 → A3 → A4 → Option β} (I : Nat → A1 → A2 → A3 → A4 → Prop) (N : Nat) (Q : Option β → Prop) (hs : ∀ (i : Nat) (a1 : A1) (a2 : A2) (a3 : A3) (a4 : A4), i ≤ N → I i a1 a2 a3 a4 → (i < N ∧ ∃ (b1 : A1) (b2 : A2) (b3 : A3) (b4 : A4), I (i + 1) b1 b2 b3 b4 ∧ ∀ rec, f rec a1 a2 a3 a4 = rec b1 b2 b3 b4) ∨ (∃ r, Q r ∧ ∀ rec, f rec a1 a2 a3 a4 = r)) (a1 : A1) (a2 : A2) (a3 : A3) (a4 : A4) (h0 : I 0 a1 a2 a3 a4) (hN : N < FU) : Q (lq4 f FU a1 a2 a3 a4) := by
  have key : ∀ (d i n : Nat) (a1 : A1) (a2 : A2) (a3 : A3) (a4 : A4), i + d = N → d < n → I i a1 a2 a3 a4 → Q (lq4 f n a1 a2 a3 a4) := by
    intro d
    induction d with
    | zero =>
      intro i n a1 a2 a3 a4 hi hn hI
      obtain ⟨m, rfl⟩ : ∃ m, n = m + 1 := ⟨n - 1, by omega⟩
      rcases hs i a1 a2 a3 a4 (by omega) hI with ⟨hlt, _⟩ | ⟨r, hr, e⟩
      · omega
      · show Q (f (lq4 f m) a1 a2 a3 a4)
        rw [e]
        exact hr
    | succ d ih =>
      intro i n a1 a2 a3 a4 hi hn hI
      obtain ⟨m, rfl⟩ : ∃ m, n = m + 1 := ⟨n - 1, by omega⟩
      show Q (f (lq4 f m) a1 a2 a3 a4)
      rcases hs i a1 a2 a3 a4 (by omega) hI with ⟨hlt, b1, b2, b3, b4, hb, e⟩ | ⟨r, hr, e⟩
      · rw [e]
        exact ih (i + 1) m b1 b2 b3 b4 (by omega) (by omega) hb
      · rw [e]
        exact hr
  exact key N 0 FU a1 a2 a3 a4 (by omega) hN h0
theorem lq5_rel {A1 A2 A3 A4 A5 β : Type} {f : (A1 → A2 → A3 → A4 → A5 → Option β) → A1 → A2 → A3 → A4 → A5 → Option β} (I : Nat → A1 → A2 → A3 → A4 → A5 → Prop) (N : Nat) (Q : Option β → Prop) (hs : ∀ (i : Nat) (a1 : A1) (a2 : A2) (a3 : A3) (a4 : A4) (a5 : A5), i ≤ N → I i a1 a2 a3 a4 a5 → (i < N ∧ ∃ (b1 : A1) (b2 : A2) (b3 : A3) (b4 : A4) (b5 : A5), I (i + 1) b1 b2 b3 b4 b5 ∧ ∀ rec, f rec a1 a2 a3 a4 a5 = rec b1 b2 b3 b4 b5) ∨ (∃ r, Q r ∧ ∀ rec, f rec a1 a2 a3 a4 a5 = r)) (a1 : A1) (a2 : A2) (a3 : A3) (a4 : A4) (a5 : A5) (h0 : I 0 a1 a2 a3 a4 a5) (hN : N < FU) : Q (lq5 f FU a1 a2 a3 a4 a5) := by
  have key : ∀ (d i n : Nat) (a1 : A1) (a2 : A2) (a3 : A3) (a4 : A4) (a5 : A5), i + d = N → d < n → I i a1 a2 a3 a4 a5 → Q (lq5 f n a1 a2 a3 a4 a5) := by
    intro d
    induction d with
    | zero =>
      intro i n a1 a2 a3 a4 a5 hi hn hI
      obtain ⟨m, rfl⟩ : ∃ m, n = m + 1 := ⟨n - 1, by omega⟩
      rcases hs i a1 a2 a3 a4 a5 (by omega) hI with ⟨hlt, _⟩ | ⟨r, hr, e⟩
      · omega
      · show Q (f (lq5 f m) a1 a2 a3 a4 a5)
        rw [e]
        exact hr
    | succ d ih =>
      intro i n a1 a2 a3 a4 a5 hi hn hI
      obtain ⟨m, rfl⟩ : ∃ m, n = m + 1 := ⟨n - 1, by omega⟩
      show Q (f (lq5 f m) a1 a2 a3 a4 a5)
      rcases hs i a1 a2 a3 a4 a5 (by omega) hI with ⟨hlt, b1, b2, b3, b4, b5, hb, e⟩ | ⟨r, hr, e⟩
      · rw [e]
        exact ih (i + 1) m b1 b2 b3 b4 b5 (by omega) (by omega) hb
      · rw [e]
        exact hr
  exact key N 0 FU a1 a2 a3 a4 a5 (by omega) hN h0
theorem lq6_rel {A1 A2 A3 A4 A5 A6 β : Type} {f : (A1 → A2 → A3 → A4 → A5 → A6 → Option β) → A1 → A2 → A3 → A4 → A5 → A6 → Option β} (I : Nat → A1 → A2 → A3 → A4 → A5 → A6 → Prop) (N : Nat) (Q : Option β → Prop) (hs : ∀ (i : Nat) (a1 : A1) (a2 : A2) (a3 : A3) (a4 : A4) (a5 : A5) (a6 : A6), i ≤ N → I i a1 a2 a3 a4 a5 a6 → (i < N ∧ ∃ (b1 : A1) (b2 : A2) (b3 : A3) (b4 : A4) (b5 : A5) (b6 : A6), I (i + 1) b1 b2 b3 b4 b5 b6 ∧ ∀ rec, f rec a1 a2 a3 a4 a5 a6 = rec b1 b2 b3 b4 b5 b6) ∨ (∃ r, Q r ∧ ∀ rec, f rec a1 a2 a3 a4 a5 a6 = r)) (a1 : A1) (a2 : A2) (a3 : A3) (a4 : A4) (a5 : A5) (a6 : A6) (h0 : I 0 a1 a2 a3 a4 a5 a6) (hN : N < FU) : Q (lq6 f FU a1 a2 a3 a4 a5 a6) := by
  have key : ∀ (d i n : Nat) (a1 : A1) (a2 : A2) (a3 : A3) (a4 : A4) (a5 : A5) (a6 : A6), i + d = N → d < n → I i a1 a2 a3 a4 a5 a6 → Q (lq6 f n a1 a2 a3 a4 a5 a6) := by
    intro d
    induction d with
    | zero =>
      intro i n a1 a2 a3 a4 a5 a6 hi hn hI
      obtain ⟨m, rfl⟩ : ∃ m, n = m + 1 := ⟨n - 1, by omega⟩
      rcases hs i a1 a2 a3 a4 a5 a6 (by omega) hI with ⟨hlt, _⟩ | ⟨r, hr, e⟩
      · omega
      · show Q (f (lq6 f m) a1 a2 a3 a4 a5 a6)
        rw [e]
        exact hr
    | succ d ih =>
      intro i n a1 a2 a3 a4 a5 a6 hi hn hI
      obtain ⟨m, rfl⟩ : ∃ m, n = m + 1 := ⟨n - 1, by omega⟩
      show Q (f (lq6 f m) a1 a2 a3 a4 a5 a6)
      rcases hs i a1 a2 a3 a4 a5 a6 (by omega) hI with ⟨hlt, b1, b2, b3, b4, b5, b6, hb, e⟩ | ⟨r, hr, e⟩
      · rw [e]
        exact ih (i + 1) m b1 b2 b3 b4 b5 b6 (by omega) (by omega) hb
      · rw [e]
        exact hr
  exact key N 0 FU a1 a2 a3 a4 a5 a6 (by omega) hN h0
theorem bnd1_s {A1 β : Type} {a1 : A1} {k : A1 → Option β} : bnd1 (some (a1)) k = k a1 := rfl
theorem bnd2_s {A1 A2 β : Type} {a1 : A1} {a2 : A2} {k : A1 → A2 → Option β} : bnd2 (some (a1, a2)) k = k a1 a2 := rfl
theorem bnd3_s {A1 A2 A3 β : Type} {a1 : A1} {a2 : A2} {a3 : A3} {k : A1 → A2 → A3 → Option β} : bnd3 (some (a1, a2, a3)) k = k a1 a2 a3 := rfl
theorem bnd4_s {A1 A2 A3 A4 β : Type} {a1 : A1} {a2 : A2} {a3 : A3} {a4 : A4} {k : A1 → A2 → A3 → A4 → Option β} : bnd4 (some (a1, a2, a3, a4)) k = k a1 a2 a3 a4 := rfl
theorem bnd5_s {A1 A2 A3 A4 A5 β : Type} {a1 : A1} {a2 : A2} {a3 : A3} {a4 : A4} {a5 : A5} {k : A1 → A2 → A3 → A4 → A5 → Option β} : bnd5 (some (a1, a2, a3, a4, a5)) k = k a1 a2 a3 a4 a5 := rfl
theorem bnd6_s {A1 A2 A3 A4 A5 A6 β : Type} {a1 : A1} {a2 : A2} {a3 : A3} {a4 : A4} {a5 : A5} {a6 : A6} {k : A1 → A2 → A3 → A4 → A5 → A6 → Option β} : bnd6 (some (a1, a2, a3, a4, a5, a6)) k = k a1 a2 a3 a4 a5 a6 := rfl

/-! groups -/
theorem up2_s {g : GS} {k j : Nat} {v : Int32} : up2 g k j v k j = v := by simp [up2]
theorem up2_r {g : GS} {k j a : Nat} {v : Int32} (h : a ≠ k) : up2 g k j v a = g a := by
  have : Nat.beq a k = false := by
    cases e : Nat.beq a k with
    | false => rfl
    | true => exact absurd (Nat.eq_of_beq_eq_true e) h
  simp [up2, this]
theorem up2_n {g : GS} {k j a b : Nat} {v : Int32} (h : b ≠ j) : up2 g k j v a b = g a b := by
  have : Nat.beq b j = false := by
    cases e : Nat.beq b j with
    | false => rfl
    | true => exact absurd (Nat.eq_of_beq_eq_true e) h
  unfold up2
  cases Nat.beq a k <;> simp [this]
theorem upA_s {g : GS} {k : Nat} {f : Nat → Int32} : upA g k f k = f := by simp [upA]
theorem upA_r {g : GS} {k a : Nat} {f : Nat → Int32} (h : a ≠ k) : upA g k f a = g a := by
  have : Nat.beq a k = false := by
    cases e : Nat.beq a k with
    | false => rfl
    | true => exact absurd (Nat.eq_of_beq_eq_true e) h
  simp [upA, this]
theorem cpy_n {f g : Nat → Int32} {n j : Nat} (h : j < n) : va_cpy f g 0 0 n j = f j := by simp [va_cpy, h]
/-- a row holds a list -/
def rowOf (f : Nat → Int32) (L : List Nat) : Prop := ∀ i (h : i < L.length), f i = nI L[i]
theorem rowOf_nil {f : Nat → Int32} : rowOf f [] := fun i h => absurd h (Nat.not_lt_zero _)
theorem rowOf_add {f : Nat → Int32} {L : List Nat} {e : Nat} (h : rowOf f L) : rowOf (upd f L.length (nI e)) (L ++ [e]) := by
  intro i hi
  by_cases c : i < L.length
  · rw [List.getElem_append_left c, pk_un (by omega)]
    exact h i c
  · have : i = L.length := by simp at hi; omega
    subst this
    rw [pk_us]
    simp
/-- the first of n of which p holds -/
def fst1 (p : Nat → Bool) : Nat → Option Nat
  | 0 => none
  | n + 1 => match fst1 p n with
    | some a => some a
    | none => if p n then some n else none
theorem fst1_none {p : Nat → Bool} : ∀ {n : Nat}, fst1 p n = none ↔ ∀ i, i < n → p i = false := by
  intro n
  induction n with
  | zero => exact ⟨fun _ i h => absurd h (Nat.not_lt_zero _), fun _ => rfl⟩
  | succ n ih =>
    unfold fst1
    cases e : fst1 p n with
    | some a =>
      constructor
      · intro h; cases h
      · intro h
        have := ih.mpr (fun i hi => h i (by omega))
        rw [e] at this; cases this
    | none =>
      have h0 := ih.mp e
      by_cases c : p n = true
      · simp only [c, if_true]
        constructor
        · intro h; cases h
        · intro h; rw [h n (by omega)] at c; cases c
      · simp only [c, if_false]
        refine ⟨fun _ i hi => ?_, fun _ => rfl⟩
        by_cases d : i = n
        · subst d; simpa using c
        · exact h0 i (by omega)
theorem fst1_some {p : Nat → Bool} : ∀ {n a : Nat}, fst1 p n = some a ↔ a < n ∧ p a = true ∧ ∀ i, i < a → p i = false := by
  intro n
  induction n with
  | zero => intro a; simp [fst1]
  | succ n ih =>
    intro a
    unfold fst1
    cases e : fst1 p n with
    | some b =>
      have hb := ih.mp e
      simp only [Option.some.injEq]
      constructor
      · rintro rfl
        exact ⟨by omega, hb.2⟩
      · intro h
        rcases Nat.lt_trichotomy a b with c | c | c
        · have := hb.2.2 a c; rw [h.2.1] at this; cases this
        · exact c.symm
        · have := h.2.2 b c; rw [hb.2.1] at this; cases this
    | none =>
      have h0 := fst1_none.mp e
      by_cases c : p n = true
      · simp only [c, if_true, Option.some.injEq]
        constructor
        · rintro rfl; exact ⟨by omega, c, h0⟩
        · intro h
          rcases Nat.lt_trichotomy a n with d | d | d
          · have := h0 a d; rw [h.2.1] at this; cases this
          · exact d.symm
          · omega
      · simp only [c, if_false]
        constructor
        · intro h; cases h
        · intro h
          by_cases d : a = n
          · subst d; exact absurd h.2.1 c
          · have := h0 a (by omega); rw [h.2.1] at this; cases this
