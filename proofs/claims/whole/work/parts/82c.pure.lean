/-! moving -/
def pU (P : Nat → Nat) (h q : Nat) : Nat → Nat := fun a => if a = h then q else P a
theorem sOn_gr {T : NN} {P : Nat → Nat} {h i : Nat} : (gr (T 0 0) (T 2 h) (P h)).testBit i = sOn T P h i := gr_t
theorem sOn_pU {T : NN} {P : Nat → Nat} {h q a i : Nat} : sOn T (pU P h q) a i = if a = h then (gr (T 0 0) (T 2 h) q).testBit i else sOn T P a i := by
  by_cases c : a = h
  · subst c
    rw [if_pos rfl, gr_t]
    simp [sOn, pU]
  · rw [if_neg c]
    simp [sOn, pU, c]
theorem oc_move {T : NN} {P : Nat → Nat} {h q : Nat} (hd : dsj T P) (hh : h < T 0 1) : ocN T (pU P h q) (T 0 1) = anN (ocN T P (T 0 1)) (gr (T 0 0) (T 2 h) (P h)) ||| gr (T 0 0) (T 2 h) q := by
  refine Nat.eq_of_testBit_eq fun i => ?_
  rw [Bool.eq_iff_iff, Nat.testBit_or, Bool.or_eq_true, anN_t, Bool.and_eq_true, ocN_t, ocN_t, sOn_gr]
  constructor
  · rintro ⟨a, h1, h2⟩
    rw [sOn_pU] at h2
    by_cases c : a = h
    · rw [if_pos c] at h2; exact Or.inr h2
    · rw [if_neg c] at h2
      refine Or.inl ⟨⟨a, h1, h2⟩, ?_⟩
      cases e : sOn T P h i with
      | false => rfl
      | true => exact absurd ⟨h2, e⟩ (hd a h h1 hh c i)
  · rintro (⟨⟨a, h1, h2⟩, h3⟩ | h2)
    · refine ⟨a, h1, ?_⟩
      rw [sOn_pU]
      by_cases c : a = h
      · subst c; rw [h2] at h3; cases h3
      · rw [if_neg c]; exact h2
    · refine ⟨h, hh, ?_⟩
      rw [sOn_pU, if_pos rfl]; exact h2
theorem nx_pv {p q : Nat} (h : q < p) : nx p (pv p q) = q := by
  unfold nx pv
  split <;> split <;> omega
theorem dsj_move {T : NN} {P : Nat → Nat} {h q : Nat} (hI : IT T) (hd : dsj T P) (hP : P h < T 0 0) (hh : h < T 0 1) (hq : q ∈ ways T P h) : dsj T (pU P h q) := by
  have key : ∀ b i, b < T 0 1 → b ≠ h → (gr (T 0 0) (T 2 h) q).testBit i = true → sOn T P b i = true → False := by
    intro b i hb hne hg hs
    obtain ⟨k2, hl, hm⟩ := mem_wayF hI hP hq
    have hO : ∀ j, (ocN T P (T 0 1)).testBit j = false → sOn T P b j = true → False := by
      intro j hj hsb
      have : (ocN T P (T 0 1)).testBit j = true := ocN_t.mpr ⟨b, hb, hsb⟩
      rw [hj] at this; cases this
    rw [gr_t] at hg
    by_cases k3 : T 2 h = 3
    · have hg' : q = i ∨ nx (T 0 0) q = i := by simpa [k3] using hg
      have own0 : sOn T P h (P h) = true := by simp [sOn]
      have own1 : sOn T P h (nx (T 0 0) (P h)) = true := by simp [sOn, k3]
      rcases hm with ⟨e, h1⟩ | ⟨e, h1⟩ | ⟨e, h1⟩
      · rw [if_pos k3] at h1
        rcases hg' with g | g
        · subst g; subst e; exact hd b h hb hh hne _ ⟨hs, own1⟩
        · subst g; subst e; exact hO _ h1 hs
      · rcases hg' with g | g
        · subst g; exact hO _ h1 hs
        · subst g; subst e; rw [nx_pv hP] at hs; exact hd b h hb hh hne _ ⟨hs, own0⟩
      · exact e k3
    · have hg' : q = i := by simpa [k3] using hg
      subst hg'
      rcases hm with ⟨e, h1⟩ | ⟨e, h1⟩ | ⟨e, h1⟩
      · rw [if_neg k3] at h1; subst e; exact hO _ h1 hs
      · exact hO _ h1 hs
      · exact hO _ h1 hs
  intro a b ha hb hne i ⟨h1, h2⟩
  rw [sOn_pU] at h1 h2
  by_cases c : a = h
  · rw [if_pos c] at h1
    rw [if_neg (fun z => hne (c.trans z.symm))] at h2
    exact key b i hb (fun z => hne (c.trans z.symm)) h1 h2
  · rw [if_neg c] at h1
    by_cases d : b = h
    · rw [if_pos d] at h2
      exact key a i ha c h2 h1
    · rw [if_neg d] at h2
      exact hd a b ha hb hne i ⟨h1, h2⟩
theorem p_moveHouse {gS tT : GS} {T : NN} (hT : RT tT T) (hI : IT T) {P : Nat → Nat} {h q : Nat} (hP : ∀ a, a < T 0 1 → gS 1 a = nI (P a)) (hl : ∀ a, a < T 0 1 → P a < T 0 0) (h4 : gS 0 4 = nI (ocN T P (T 0 1))) (hd : dsj T P) (hh : h < T 0 1) (hq : q < T 0 0) : ∃ g', MX1_moveHouse gS tT (nI h) (nI q) = some g' ∧ (∀ a, a < T 0 1 → g' 1 a = nI (pU P h q a)) ∧ g' 0 4 = nI (ocN T (pU P h q) (T 0 1)) ∧ (∀ j, j ≠ 4 → g' 0 j = gS 0 j) ∧ g' 2 = gS 2 := by
  have i2 := hI.1.2.2.1
  have t2 := hT.2.2.1 h (by omega)
  have ph := hP h hh
  have g1 := p_ground hT hI (hI.2.2.1 h (by omega)) (hl h hh)
  have ho := ocN_lt hl
  have e12 := two_12 hI.1.2.1
  unfold MX1_moveHouse
  simp (disch := omega) only [nm, jn0, jn1, jn2, jn3, jn4, jn5, bnd1_s, bnd2_s, bnd3_s, bnd4_s, lit_n, neg1, chkI_n, chkZ_n, chkC_n, bI_B, chkB_0, chkB_1, bI_t, bI_f, clamp_n, nI_add, subn, remn2, nat_rem, divn, pk_mul, ifle_t, ifle_f, iflt_t, iflt_f, ifeq_t, ifeq_f, ifm_f, ifm_t, if_true, if_false, t2, ph, g1, h4, andnot]
  generalize hg2 : upA (up2 gS 0 4 (nI (anN (ocN T P (T 0 1)) (gr (T 0 0) (T 2 h) (P h))))) 1 (upd (up2 gS 0 4 (nI (anN (ocN T P (T 0 1)) (gr (T 0 0) (T 2 h) (P h)))) 1) h (nI q)) = g2
  have g3 := p_ground hT hI (hI.2.2.1 h (by omega)) hq
  have e4 : g2 0 4 = nI (anN (ocN T P (T 0 1)) (gr (T 0 0) (T 2 h) (P h))) := by subst hg2; simp (disch := omega) only [up2_s, up2_r, up2_n, upA_s, upA_r, pk_us, pk_un, cpy_n]
  simp (disch := omega) only [nm, jn0, jn1, jn2, jn3, jn4, jn5, bnd1_s, bnd2_s, bnd3_s, bnd4_s, lit_n, neg1, chkI_n, chkZ_n, chkC_n, bI_B, chkB_0, chkB_1, bI_t, bI_f, clamp_n, nI_add, subn, remn2, nat_rem, divn, pk_mul, ifle_t, ifle_f, iflt_t, iflt_f, ifeq_t, ifeq_f, ifm_f, ifm_t, if_true, if_false, g3, e4, fa_or]
  refine ⟨_, rfl, fun a ha => ?_, ?_, fun j hj => ?_, ?_⟩
  · subst hg2
    simp (disch := omega) only [up2_s, up2_r, up2_n, upA_s, upA_r, pk_us, pk_un, cpy_n]
    by_cases c : a = h
    · subst c; rw [pk_us]; simp [pU]
    · rw [pk_un c, hP a ha]; simp [pU, c]
  · simp (disch := omega) only [up2_s, up2_r, up2_n, upA_s, upA_r, pk_us, pk_un, cpy_n]
    rw [oc_move hd hh]
  · subst hg2
    rw [up2_n hj, upA_r (by decide), up2_n hj]
  · subst hg2
    rw [up2_r (by decide), upA_r (by decide), up2_r (by decide)]
/-! the night -/
def rol (S : NN) (h q : Nat) : NN := tU (tU (tU S 0 5 (S 0 5 + 1)) 1 h q) 2 h (S 0 5 + 1)
def rolT (T S : NN) (h q law : Nat) : NN := if law = 1 then tU (rol S h q) 0 6 (nx (T 0 1) h) else rol S h q
def hasW (T : NN) (P : Nat → Nat) (h : Nat) : Bool := !(ways T P h).isEmpty
def rst (T S : NN) : Nat → Option Nat
  | 0 => none
  | i + 1 => match rst T S i with
    | none => if hasW T (S 1) i = true then some i else none
    | some b => if S 2 i < S 2 b ∧ hasW T (S 1) i = true then some i else some b
def fsH (T S : NN) (u : Nat) : Option Nat := (fst1 (fun i => hasW T (S 1) ((u + i) % T 0 1)) (T 0 1)).map (fun i => (u + i) % T 0 1)
def rlr (T : NN) (law : Nat) (S : NN) : Option Nat := if law = 2 then rst T S (T 0 1) else fsH T S (if law = 1 then S 0 6 else 0)
def tot (T : NN) (P : Nat → Nat) : Nat → Nat
  | 0 => 0
  | k + 1 => tot T P k + (ways T P k).length
def lotH (T S : NN) (num : Nat) : Option Nat := fst1 (fun h => decide (num < tot T (S 1) (h + 1))) (T 0 1)
def night (T : NN) (law : Nat) (S : NN) : NN :=
  if law = 3 then
    (if tot T (S 1) (T 0 1) = 0 then tU S 0 5 (S 0 5 + 1) else
      match lotH T S (16807 * S 0 7 % 65521 % tot T (S 1) (T 0 1)) with
      | none => tU S 0 5 (S 0 5 + 1)
      | some h => rol (tU S 0 7 (16807 * S 0 7 % 65521)) h ((ways T (S 1) h).getD (16807 * S 0 7 % 65521 % tot T (S 1) (T 0 1) - tot T (S 1) h) 0))
  else match rlr T law S with
    | none => tU S 0 5 (S 0 5 + 1)
    | some h => rolT T S h ((ways T (S 1) h).getD 0 0) law
theorem rol_1 {S : NN} {h q : Nat} : rol S h q 1 = pU (S 1) h q := by
  funext a
  simp [rol, tU, pU]
theorem rolT_1 {T S : NN} {h q law : Nat} : rolT T S h q law 1 = pU (S 1) h q := by
  unfold rolT
  split
  · funext a
    rw [← rol_1]
    simp [tU]
  · exact rol_1
theorem rst_lt {T S : NN} : ∀ {n b : Nat}, rst T S n = some b → b < n ∧ hasW T (S 1) b = true := by
  intro n
  induction n with
  | zero => intro b h; cases h
  | succ n ih =>
    intro b h
    unfold rst at h
    cases e : rst T S n with
    | none =>
      rw [e] at h
      by_cases c : hasW T (S 1) n = true
      · simp only [c, if_true, Option.some.injEq] at h
        subst h; exact ⟨by omega, c⟩
      · simp only [c] at h
        exact absurd h (by simp)
    | some d =>
      rw [e] at h
      have := ih e
      by_cases c : S 2 n < S 2 d ∧ hasW T (S 1) n = true
      · simp only [c, and_self, if_true, Option.some.injEq] at h
        subst h; exact ⟨by omega, c.2⟩
      · simp only [c, if_false, Option.some.injEq] at h
        subst h; exact ⟨by omega, this.2⟩
theorem fsH_lt {T S : NN} {u b : Nat} (h : fsH T S u = some b) : b < T 0 1 ∧ hasW T (S 1) b = true := by
  unfold fsH at h
  obtain ⟨a, h1, rfl⟩ := Option.map_eq_some_iff.mp h
  obtain ⟨h2, h3, -⟩ := fst1_some.mp h1
  exact ⟨Nat.mod_lt _ (by omega), h3⟩
theorem rlr_lt {T S : NN} {law b : Nat} (h : rlr T law S = some b) : b < T 0 1 ∧ hasW T (S 1) b = true := by
  unfold rlr at h
  split at h
  · exact rst_lt h
  · exact fsH_lt h
theorem hasW_0 {T : NN} {P : Nat → Nat} {h : Nat} (hw : hasW T P h = true) : 0 < (ways T P h).length := by
  unfold hasW at hw
  cases e : ways T P h with
  | nil => rw [e] at hw; cases hw
  | cons x xs => simp
theorem getD_mem {L : List Nat} {i : Nat} (h : i < L.length) : L.getD i 0 ∈ L := by
  rw [List.getD_eq_getElem?_getD, List.getElem?_eq_getElem h]
  exact List.getElem_mem h
theorem tot_s {T : NN} {P : Nat → Nat} {k : Nat} : tot T P (k + 1) = tot T P k + (ways T P k).length := rfl
theorem tot_mono {T : NN} {P : Nat → Nat} {a : Nat} : ∀ {b : Nat}, a ≤ b → tot T P a ≤ tot T P b := by
  intro b
  induction b with
  | zero => intro h; have : a = 0 := by omega
            subst this; exact Nat.le_refl _
  | succ b ih =>
    intro h
    by_cases c : a = b + 1
    · subst c; exact Nat.le_refl _
    · have := ih (by omega)
      rw [tot_s]
      omega
theorem lotH_ok {T S : NN} {num : Nat} (h : num < tot T (S 1) (T 0 1)) : ∃ b, lotH T S num = some b ∧ b < T 0 1 ∧ tot T (S 1) b ≤ num ∧ num < tot T (S 1) (b + 1) := by
  cases e : lotH T S num with
  | none =>
    have := fst1_none.mp e
    exfalso
    cases hn : T 0 1 with
    | zero => rw [hn] at h; exact absurd h (Nat.not_lt_zero _)
    | succ m =>
      have := this m (by omega)
      rw [hn] at h
      simp only [decide_eq_false_iff_not] at this
      exact this h
  | some b =>
    obtain ⟨h1, h2, h3⟩ := fst1_some.mp e
    refine ⟨b, rfl, h1, ?_, by simpa using h2⟩
    cases b with
    | zero => exact Nat.zero_le _
    | succ c =>
      have := h3 c (by omega)
      simp only [decide_eq_false_iff_not] at this
      omega
/-- a standing stays one behind a roll -/
theorem IS_rolT {T S : NN} {h q law : Nat} (hI : IT T) (hS : IS T S) (hh : h < T 0 1) (hq : q ∈ ways T (S 1) h) : IS T (rolT T S h q law) := by
  obtain ⟨s1, s2, s3, s4, s5⟩ := hS
  have hw := mem_wayF hI (s1 h hh) hq
  refine ⟨fun a ha => ?_, ?_, ?_, ?_, fun a ha => ?_⟩
  · rw [rolT_1]
    unfold pU
    split
    · exact hw.2.1
    · exact s1 a ha
  · rw [rolT_1]
    exact dsj_move hI s2 (s1 h hh) hh hq
  · unfold rolT
    split
    · right
      have : nx (T 0 1) h < T 0 1 := nx_lt (by omega)
      simpa [tU] using this
    · simpa [rol, tU] using s3
  · unfold rolT
    split <;> simpa [rol, tU] using s4
  · have e : rolT T S h q law 2 a = if a = h then S 0 5 + 1 else S 2 a := by
      unfold rolT
      split <;> simp [rol, tU]
    have e5 : rolT T S h q law 0 5 = S 0 5 + 1 := by
      unfold rolT
      split <;> simp [rol, tU]
    rw [e, e5]
    have := s5 a ha
    split <;> omega
theorem IS_inc {T S : NN} (hS : IS T S) : IS T (tU S 0 5 (S 0 5 + 1)) := by
  obtain ⟨s1, s2, s3, s4, s5⟩ := hS
  have e1 : (tU S 0 5 (S 0 5 + 1)) 1 = S 1 := by funext a; simp [tU]
  refine ⟨fun a ha => by rw [e1]; exact s1 a ha, by rw [e1]; exact s2, by simpa [tU] using s3, by simpa [tU] using s4, fun a ha => ?_⟩
  have := s5 a ha
  simp [tU]; omega
theorem IS_x {T S : NN} {x : Nat} (hS : IS T S) (hx : x < 65521) : IS T (tU S 0 7 x) := by
  obtain ⟨s1, s2, s3, s4, s5⟩ := hS
  have e1 : (tU S 0 7 x) 1 = S 1 := by funext a; simp [tU]
  exact ⟨fun a ha => by rw [e1]; exact s1 a ha, by rw [e1]; exact s2, by simpa [tU] using s3, by simpa [tU] using hx, fun a ha => by simpa [tU] using s5 a ha⟩
theorem IS_night {T S : NN} {law : Nat} (hI : IT T) (hS : IS T S) : IS T (night T law S) := by
  unfold night
  split
  · split
    · exact IS_inc hS
    · rename_i c
      obtain ⟨b, e, hb, h1, h2⟩ := lotH_ok (T := T) (S := S) (num := 16807 * S 0 7 % 65521 % tot T (S 1) (T 0 1)) (Nat.mod_lt _ (by omega))
      rw [e]
      have hx : IS T (tU S 0 7 (16807 * S 0 7 % 65521)) := IS_x hS (Nat.mod_lt _ (by decide))
      have e1 : (tU S 0 7 (16807 * S 0 7 % 65521)) 1 = S 1 := by funext a; simp [tU]
      have := IS_rolT (law := 0) (h := b) (q := (ways T (S 1) b).getD (16807 * S 0 7 % 65521 % tot T (S 1) (T 0 1) - tot T (S 1) b) 0) hI hx hb (by
        rw [e1]
        refine getD_mem ?_
        rw [tot_s] at h2
        omega)
      simpa [rolT] using this
  · split
    · exact IS_inc hS
    · rename_i h e
      obtain ⟨hb, hw⟩ := rlr_lt e
      exact IS_rolT hI hS hb (getD_mem (hasW_0 hw))
theorem night_N {T S : NN} {law : Nat} : night T law S 0 5 = S 0 5 + 1 := by
  unfold night
  split
  · split
    · simp [tU]
    · cases lotH T S (16807 * S 0 7 % 65521 % tot T (S 1) (T 0 1)) with
      | none => simp [tU]
      | some h => simp [rol, tU]
  · cases rlr T law S with
    | none => simp [tU]
    | some h =>
      show rolT T S h _ law 0 5 = _
      unfold rolT
      split <;> simp [rol, tU]
def nights (T : NN) (law : Nat) (S : NN) : Nat → NN
  | 0 => S
  | t + 1 => night T law (nights T law S t)
theorem nights_IS {T S : NN} {law : Nat} (hI : IT T) (hS : IS T S) : ∀ {t : Nat}, IS T (nights T law S t) := by
  intro t
  induction t with
  | zero => exact hS
  | succ t ih => exact IS_night hI ih
theorem nights_N {T S : NN} {law : Nat} : ∀ {t : Nat}, nights T law S t 0 5 = S 0 5 + t := by
  intro t
  induction t with
  | zero => rfl
  | succ t ih => show night T law _ 0 5 = _; rw [night_N, ih]; omega
