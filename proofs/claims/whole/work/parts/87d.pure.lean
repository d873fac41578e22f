/-! lines -/
def doA (T : NN) (c a1 a2 : Nat) : NN := match c with
  | 0 => lay T a1
  | 1 => tU T 1 a1 a2
  | 2 => stl T 0 a1
  | 3 => stl T 1 a1
  | 4 => stl T 2 a1
  | 5 => stl T 3 a1
  | 6 => adP T a1 a2
  | 7 => adF T a1 a2
  | 8 => tU T 0 4 0
  | 9 => tU T 0 4 1
  | 10 => tU T 0 4 2
  | 11 => tU (tU T 0 4 3) 0 5 a1
  | _ => rmv T
def okA (T : NN) (c a1 : Nat) : Prop := c ≤ 12 ∧ (c = 1 → a1 < 12) ∧ (2 ≤ c ∧ c ≤ 5 → T 0 1 < 8) ∧ (c = 6 → T 0 2 < 6) ∧ (c = 7 → T 0 3 < 6)
def CN (m : GS) (T : NN) : Prop := m 0 20 = nI (T 0 0) ∧ m 0 21 = nI (T 0 1) ∧ m 0 22 = nI (ocN T (T 3) (T 0 1)) ∧ m 0 23 = nI (T 0 2) ∧ m 0 24 = nI (T 0 3)
def lineR (m : GS) (w c a1 a2 : Nat) : Prop := m 7 w = nI c ∧ (c ≤ 7 ∨ c = 11 → m 7 (w + 1) = nI a1) ∧ (c = 1 ∨ c = 6 ∨ c = 7 → m 7 (w + 2) = nI a2)
def fPs (g g' : GS) (w : Nat) : Prop := ∀ i j, (i = 0 → j < 13 ∨ j = 15 ∨ j = 19 ∨ 24 < j) → (i = 7 → j < w ∨ w + 2 < j) → g' i j = g i j
theorem fPs.refl {g : GS} {w : Nat} : fPs g g w := fun _ _ _ _ => rfl
theorem fPs.trans {g g' g'' : GS} {w : Nat} (h : fPs g g' w) (h' : fPs g' g'' w) : fPs g g'' w := fun i j a b => (h' i j a b).trans (h i j a b)
theorem fNm.p {g g' : GS} {w w' : Nat} (h : fNm g g' w') (h1 : w ≤ w') (h2 : w' ≤ w + 2) : fPs g g' w := fun i j a b => h i j (fun z => by have := a z; omega) (fun z => by have := b z; omega)
theorem fTk.p {g g' : GS} {w : Nat} (h : fTk g g') : fPs g g' w := (h.m (w := w)).p (Nat.le_refl _) (by omega)
/-- a slot of the counters is put -/
theorem fPs_up {g : GS} {w j : Nat} {v : Int32} (h1 : 13 ≤ j) (h2 : j ≤ 24) (h3 : j ≠ 15) (h4 : j ≠ 19) : fPs g (up2 g 0 j v) w := fun a b p _ => by
  by_cases c : a = 0
  · subst c
    have := p rfl
    rw [up2_n (by omega)]
  · rw [up2_r c]
def LFS (L : Nat) (Bt : Nat → Nat) (ln w : Nat) (T : NN) (c : Nat) (A : Option (Int32 × GS × GS)) (Bo : Option (Int32 × GS × Int64)) (m : GS) : Prop :=
  (∃ xT' tT' m' tk' b e, A = some (nI 0, xT', tT') ∧ Bo = some (nI 0, m', tk') ∧ XT xT' L Bt e ln ∧ xT' 0 3 = nI b ∧ b ≤ L ∧ m' 0 18 = nI b ∧ fPs m m' w) ∨
  (∃ xT' tT' m' tk' e a1 a2, A = some (nI 1, xT', tT') ∧ Bo = some (nI 1, m', tk') ∧ XT xT' L Bt e ln ∧ e ≤ L ∧ MT m' L Bt e ∧ RT tT' (doA T c a1 a2) ∧ IT (doA T c a1 a2) ∧ CN m' (doA T c a1 a2) ∧ okA T c a1 ∧ lineR m' w c a1 a2 ∧ fPs m m' w)
theorem nb_some {Bt : Nat → Nat} {b e lo h md v : Nat} (q : nb Bt b e lo h md = some v) : lo ≤ v ∧ v < h := by
  unfold nb at q
  split at q
  · rename_i z
    cases q
    exact ⟨z.2.2.2.1, z.2.2.2.2⟩
  · cases q
theorem hm_n {h : Nat} (h1 : 1 ≤ h) (h2 : h ≤ 10000) : ∀ v, v < 100000 → (nI v ≤ nI (h - 1) ↔ v < h) := by
  intro v hv
  rw [nI_leI (by omega) (by omega)]
  omega
theorem hm_e {h : Nat} (h2 : h ≤ 10000) : ∀ v, v < 100000 → (nI v ≤ nI h - nI 1 ↔ v < h) := by
  intro v hv
  by_cases c : 1 ≤ h
  · rw [subn c]; exact hm_n c h2 v hv
  · have : h = 0 := by omega
    subst this
    constructor
    · intro z
      rw [Int32.le_iff_toInt_le, nI_toInt (by omega)] at z
      have : (nI 0 - nI 1 : Int32).toInt = -1 := by decide
      omega
    · intro z; omega
theorem le99 {h : Nat} (h2 : h ≤ 12) : nI h - nI 1 ≤ nI 99 := by
  by_cases c : 1 ≤ h
  · rw [subn c]; exact nI_le (by omega) (by decide)
  · have : h = 0 := by omega
    subst this
    decide
/-! what was told stays in its bounds -/
theorem IT_lay {T : NN} {p : Nat} (hI : IT T) (h1 : 3 ≤ p) (h2 : p < 13) : IT (lay T p) := by
  obtain ⟨a, b, c, d, e, f, g⟩ := hI
  refine ⟨by simp [lay]; omega, fun q hq => by simp [lay], fun h hh => ?_, fun h hh => ?_, fun k hk => ?_, fun k hk => ?_, ?_⟩
  · have := c h hh; simpa [lay] using this
  · simp [lay] at hh
  · simp [lay] at hk
  · simp [lay] at hk
  · intro x y hx
    simp [lay] at hx
theorem IT_rmv {T : NN} (hI : IT T) : IT (rmv T) := by
  obtain ⟨a, b, c, d, e, f, g⟩ := hI
  refine ⟨by simp [rmv, tU]; omega, fun q hq => ?_, fun h hh => ?_, fun h hh => ?_, fun k hk => ?_, fun k hk => ?_, ?_⟩
  · have := b q hq; simpa [rmv, tU] using this
  · have := c h hh; simpa [rmv, tU] using this
  · simp [rmv, tU] at hh
  · have := e k (by simpa [rmv, tU] using hk); simpa [rmv, tU] using this
  · simp [rmv, tU] at hk
  · intro x y hx
    simp [rmv, tU] at hx
theorem IT_0 {T : NN} {j v : Nat} (hI : IT T) (h : (j = 4 ∧ v ≤ 3) ∨ (j = 5 ∧ v ≤ 9999)) : IT (tU T 0 j v) := by
  obtain ⟨a, b, c, d, e, f, g⟩ := hI
  have e3 : (tU T 0 j v) 3 = T 3 := by funext x; simp [tU]
  have e2 : (tU T 0 j v) 2 = T 2 := by funext x; simp [tU]
  have e01 : (tU T 0 j v) 0 1 = T 0 1 := by simp [tU]; omega
  have e00 : (tU T 0 j v) 0 0 = T 0 0 := by simp [tU]; omega
  have e02 : (tU T 0 j v) 0 2 = T 0 2 := by simp [tU]; omega
  have e03 : (tU T 0 j v) 0 3 = T 0 3 := by simp [tU]; omega
  refine ⟨⟨by omega, by omega, by omega, by omega, by omega, ?_, ?_⟩, fun q hq => ?_, fun h hh => ?_, fun h hh => ?_, fun k hk => ?_, fun k hk => ?_, ?_⟩
  · simp only [tU]; split <;> omega
  · simp only [tU]; split <;> omega
  · have := b q hq; simpa [tU] using this
  · rw [e2]; exact c h hh
  · rw [e3, e00]; exact d h (by omega)
  · have := e k (by omega)
    rw [e00]
    simpa [tU] using this
  · have := f k (by omega)
    rw [e01]
    simpa [tU] using this
  · intro x y hx hy hne q
    have := g x y (by omega) (by omega) hne q
    unfold sOn at this ⊢
    rw [e3, e2, e00]
    exact this
theorem IT_crop {T : NN} {q v : Nat} (hI : IT T) (hv : v ≤ 9) : IT (tU T 1 q v) := by
  obtain ⟨a, b, c, d, e, f, g⟩ := hI
  refine ⟨by simpa [tU] using a, fun x hx => ?_, fun h hh => ?_, fun h hh => ?_, fun k hk => ?_, fun k hk => ?_, ?_⟩
  · have := b x hx
    simp only [tU]
    split <;> omega
  · have := c h hh; simpa [tU] using this
  · have := d h (by simpa [tU] using hh); simpa [tU] using this
  · have := e k (by simpa [tU] using hk); simpa [tU] using this
  · have := f k (by simpa [tU] using hk); simpa [tU] using this
  · have e3 : (tU T 1 q v) 3 = T 3 := by funext x; simp [tU]
    intro x y hx hy hne z
    have := g x y (by simpa [tU] using hx) (by simpa [tU] using hy) hne z
    unfold sOn at this ⊢
    rw [e3]
    simpa [tU] using this
theorem IT_adP {T : NN} {a b : Nat} (hI : IT T) (h6 : T 0 2 < 6) (ha : a < T 0 0) (hb : b < T 0 0) : IT (adP T a b) := by
  obtain ⟨q1, q2, c, d, e, f, g⟩ := hI
  refine ⟨by simp [adP, tU]; omega, fun x hx => ?_, fun h hh => ?_, fun h hh => ?_, fun k hk => ?_, fun k hk => ?_, ?_⟩
  · have := q2 x hx; simpa [adP, tU] using this
  · have := c h hh; simpa [adP, tU] using this
  · have := d h (by simpa [adP, tU] using hh); simpa [adP, tU] using this
  · have hk' : k < T 0 2 + 1 := by simpa [adP, tU] using hk
    by_cases z : k = T 0 2
    · subst z; simp [adP, tU]; omega
    · have := e k (by omega); simpa [adP, tU, z] using this
  · have := f k (by simpa [adP, tU] using hk); simpa [adP, tU] using this
  · have e3 : (adP T a b) 3 = T 3 := by funext x; simp [adP, tU]
    intro x y hx hy hne z
    have := g x y (by simpa [adP, tU] using hx) (by simpa [adP, tU] using hy) hne z
    unfold sOn at this ⊢
    rw [e3]
    simpa [adP, tU] using this
theorem IT_adF {T : NN} {a b : Nat} (hI : IT T) (h6 : T 0 3 < 6) (ha : a < T 0 1) (hb : b < T 0 1) (hne : a ≠ b) : IT (adF T a b) := by
  obtain ⟨q1, q2, c, d, e, f, g⟩ := hI
  refine ⟨by simp [adF, tU]; omega, fun x hx => ?_, fun h hh => ?_, fun h hh => ?_, fun k hk => ?_, fun k hk => ?_, ?_⟩
  · have := q2 x hx; simpa [adF, tU] using this
  · have := c h hh; simpa [adF, tU] using this
  · have := d h (by simpa [adF, tU] using hh); simpa [adF, tU] using this
  · have := e k (by simpa [adF, tU] using hk); simpa [adF, tU] using this
  · have hk' : k < T 0 3 + 1 := by simpa [adF, tU] using hk
    by_cases z : k = T 0 3
    · subst z; simp [adF, tU]; omega
    · have := f k (by omega); simpa [adF, tU, z] using this
  · have e3 : (adF T a b) 3 = T 3 := by funext x; simp [adF, tU]
    intro x y hx hy hn z
    have := g x y (by simpa [adF, tU] using hx) (by simpa [adF, tU] using hy) hn z
    unfold sOn at this ⊢
    rw [e3]
    simpa [adF, tU] using this
theorem stl_oc {T : NN} {k q : Nat} : ∀ {n : Nat}, n ≤ T 0 1 → ocN (stl T k q) (stl T k q 3) n = ocN T (T 3) n := by
  intro n
  induction n with
  | zero => intro _; rfl
  | succ n ih =>
    intro h
    have e0 : stl T k q 0 0 = T 0 0 := by simp [stl, tU]
    have e2 : stl T k q 2 n = T 2 n := by simp [stl, tU]; omega
    have e3 : stl T k q 3 n = T 3 n := by simp [stl, tU]; omega
    unfold ocN
    rw [ih (by omega), e0, e2, e3]
theorem stl_oc1 {T : NN} {k q : Nat} : ocN (stl T k q) (stl T k q 3) (T 0 1 + 1) = ocN T (T 3) (T 0 1) ||| gr (T 0 0) k q := by
  have e0 : stl T k q 0 0 = T 0 0 := by simp [stl, tU]
  have e2 : stl T k q 2 (T 0 1) = k := by simp [stl, tU]
  have e3 : stl T k q 3 (T 0 1) = q := by simp [stl, tU]
  show ocN (stl T k q) (stl T k q 3) (T 0 1) ||| gr (stl T k q 0 0) (stl T k q 2 (T 0 1)) (stl T k q 3 (T 0 1)) = _
  rw [stl_oc (Nat.le_refl _), e0, e2, e3]
theorem IT_stl {T : NN} {k q : Nat} (hI : IT T) (h8 : T 0 1 < 8) (hk : k ≤ 3) (hq : q < T 0 0) (hz : ocN T (T 3) (T 0 1) &&& gr (T 0 0) k q = 0) : IT (stl T k q) := by
  obtain ⟨q1, q2, c, d, e, f, g⟩ := hI
  have e0 : stl T k q 0 0 = T 0 0 := by simp [stl, tU]
  have e1 : stl T k q 0 1 = T 0 1 + 1 := by simp [stl, tU]
  refine ⟨by simp [stl, tU]; omega, fun x hx => ?_, fun h hh => ?_, fun h hh => ?_, fun j hj => ?_, fun j hj => ?_, ?_⟩
  · have := q2 x hx; simpa [stl, tU] using this
  · have := c h hh
    simp only [stl, tU]
    split
    · omega
    · split
      · omega
      · split <;> omega
  · rw [e1] at hh
    rw [e0]
    by_cases z : h = T 0 1
    · subst z; simpa [stl, tU] using hq
    · have := d h (by omega); simpa [stl, tU, z] using this
  · have := e j (by simpa [stl, tU] using hj); simpa [stl, tU] using this
  · have := f j (by simpa [stl, tU] using hj)
    have a1 : stl T k q 6 j = T 6 j := by simp [stl, tU]
    have a2 : stl T k q 7 j = T 7 j := by simp [stl, tU]
    rw [e1, a1, a2]
    omega
  · have old : ∀ x i, x < T 0 1 → sOn (stl T k q) (stl T k q 3) x i = sOn T (T 3) x i := by
      intro x i hx
      have a2 : stl T k q 2 x = T 2 x := by simp [stl, tU]; omega
      have a3 : stl T k q 3 x = T 3 x := by simp [stl, tU]; omega
      unfold sOn
      rw [e0, a2, a3]
    have new : ∀ i, sOn (stl T k q) (stl T k q 3) (T 0 1) i = (gr (T 0 0) k q).testBit i := by
      intro i
      have a2 : stl T k q 2 (T 0 1) = k := by simp [stl, tU]
      have a3 : stl T k q 3 (T 0 1) = q := by simp [stl, tU]
      unfold sOn
      rw [e0, a2, a3, gr_t]
    have key : ∀ x i, x < T 0 1 → sOn T (T 3) x i = true → (gr (T 0 0) k q).testBit i = true → False := by
      intro x i hx h1 h2
      have h3 : (ocN T (T 3) (T 0 1)).testBit i = true := ocN_t.mpr ⟨x, hx, h1⟩
      have := Nat.testBit_and (ocN T (T 3) (T 0 1)) (gr (T 0 0) k q) i
      rw [hz, h2, h3] at this
      simp at this
    intro x y hx hy hne i ⟨h1, h2⟩
    rw [e1] at hx hy
    by_cases zx : x = T 0 1
    · have zy : y < T 0 1 := by omega
      rw [zx, new] at h1
      rw [old y i zy] at h2
      exact key y i zy h2 h1
    · rw [old x i (by omega)] at h1
      by_cases zy : y = T 0 1
      · rw [zy, new] at h2
        exact key x i (by omega) h1 h2
      · rw [old y i (by omega)] at h2
        exact g x y (by omega) (by omega) hne i ⟨h1, h2⟩
