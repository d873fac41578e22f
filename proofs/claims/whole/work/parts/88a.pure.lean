/-! ===== nearest: what may be reached ===== -/
def agr (T : NN) (P P' : Nat → Nat) : Prop := ∀ h, h < T 0 1 → P h = P' h
theorem ocN_agr {T : NN} {P P' : Nat → Nat} : ∀ {n : Nat}, (∀ h, h < n → P h = P' h) → ocN T P n = ocN T P' n := by
  intro n
  induction n with
  | zero => intro _; rfl
  | succ n ih =>
    intro h
    unfold ocN
    rw [ih (fun a ha => h a (by omega)), h n (by omega)]
theorem ways_cg {T : NN} {P P' : Nat → Nat} {h : Nat} (e : agr T P P') (hh : h < T 0 1) : ways T P h = ways T P' h := by
  unfold ways
  rw [ocN_agr e, e h hh]
def wy (T : NN) (P : Nat → Nat) (h i : Nat) : Nat := (ways T P h).getD i 0
def mvP (T : NN) (P : Nat → Nat) (h i : Nat) : Nat → Nat := pU P h (wy T P h i)
theorem mvP_cg {T : NN} {P P' : Nat → Nat} {h i : Nat} (e : agr T P P') (hh : h < T 0 1) : agr T (mvP T P h i) (mvP T P' h i) := by
  intro a ha
  unfold mvP pU wy
  rw [ways_cg e hh, e a ha]
theorem bes_cg {T : NN} {P P' : Nat → Nat} {a b : Nat} (ha : P a = P' a) (hb : P b = P' b) : bes T P a b = bes T P' a b := by
  unfold bes sOn
  rw [ha, hb]
theorem fst1_cg {p q : Nat → Bool} : ∀ {n : Nat}, (∀ i, i < n → p i = q i) → fst1 p n = fst1 q n := by
  intro n h
  cases c : fst1 q n with
  | none => exact fst1_none.mpr fun i hi => (h i hi).trans (fst1_none.mp c i hi)
  | some a =>
    obtain ⟨c1, c2, c3⟩ := fst1_some.mp c
    exact fst1_some.mpr ⟨c1, (h a c1).trans c2, fun i hi => (h i (by omega)).trans (c3 i hi)⟩
def hlp (a b n h : Nat) : Bool := decide (n ≠ 0 ∨ h = a ∨ h = b)
def rc (T : NN) (a b : Nat) (G : Bool) : Nat → (Nat → Nat) → Bool
  | 0, P => bes T P a b
  | n + 1, P => (fst1 (fun h => (G || hlp a b n h) && (fst1 (fun i => rc T a b G n (mvP T P h i)) (ways T P h).length).isSome) (T 0 1)).isSome
def wyF (T : NN) (a b : Nat) (G : Bool) (n : Nat) (P : Nat → Nat) (h : Nat) : Option Nat := fst1 (fun i => rc T a b G n (mvP T P h i)) (ways T P h).length
def hsF (T : NN) (a b : Nat) (G : Bool) (n : Nat) (P : Nat → Nat) : Option Nat := fst1 (fun h => (G || hlp a b n h) && (wyF T a b G n P h).isSome) (T 0 1)
theorem rc_s {T : NN} {a b : Nat} {G : Bool} {n : Nat} {P : Nat → Nat} : rc T a b G (n + 1) P = (hsF T a b G n P).isSome := rfl
theorem rc_cg {T : NN} {a b : Nat} {G : Bool} (ha : a < T 0 1) (hb : b < T 0 1) : ∀ {n : Nat} {P P' : Nat → Nat}, agr T P P' → rc T a b G n P = rc T a b G n P' := by
  intro n
  induction n with
  | zero => intro P P' e; exact bes_cg (e a ha) (e b hb)
  | succ n ih =>
    intro P P' e
    rw [rc_s, rc_s]
    unfold hsF
    congr 1
    refine fst1_cg fun h hh => ?_
    congr 2
    unfold wyF
    rw [ways_cg e hh]
    exact fst1_cg fun i _ => ih (mvP_cg e hh)
theorem isN {α : Type} {o : Option α} : o.isSome = false ↔ o = none := by cases o <;> simp
theorem rc_mv {T : NN} {a b n h i : Nat} {P : Nat → Nat} (hf : rc T a b true (n + 1) P = false) (hh : h < T 0 1) (hi : i < (ways T P h).length) : rc T a b true n (mvP T P h i) = false := by
  rw [rc_s] at hf
  have := fst1_none.mp (isN.mp hf) h hh
  simp only [Bool.true_or, Bool.true_and] at this
  exact fst1_none.mp (isN.mp this) i hi
theorem hs_eq {T : NN} {a b n : Nat} (ih : ∀ P : Nat → Nat, (∀ m, m < n → rc T a b true m P = false) → rc T a b false n P = rc T a b true n P) {P : Nat → Nat} (hf : ∀ m, m < n + 1 → rc T a b true m P = false) : hsF T a b false n P = hsF T a b true n P ∧ ∀ h, h < T 0 1 → wyF T a b false n P h = wyF T a b true n P h := by
  have hw : ∀ h, h < T 0 1 → wyF T a b false n P h = wyF T a b true n P h := by
    intro h hh
    exact fst1_cg fun i hi => ih _ fun m hm => rc_mv (hf (m + 1) (by omega)) hh hi
  refine ⟨?_, hw⟩
  refine fst1_cg fun h hh => ?_
  rw [hw h hh]
  simp only [Bool.false_or, Bool.true_or, Bool.true_and]
  by_cases c : n ≠ 0 ∨ h = a ∨ h = b
  · unfold hlp; rw [decide_eq_true c]; rfl
  · unfold hlp; rw [decide_eq_false c]
    have n0 : n = 0 := by omega
    subst n0
    have : wyF T a b true 0 P h = none := by
      refine fst1_none.mpr fun i hi => ?_
      have := hf 0 (by omega)
      rw [← this]
      refine bes_cg ?_ ?_
      · unfold mvP pU; rw [if_neg (by omega)]
      · unfold mvP pU; rw [if_neg (by omega)]
    rw [this]; rfl
theorem rc_eq {T : NN} {a b : Nat} : ∀ {n : Nat} {P : Nat → Nat}, (∀ m, m < n → rc T a b true m P = false) → rc T a b false n P = rc T a b true n P := by
  intro n
  induction n with
  | zero => intro P _; rfl
  | succ n ih =>
    intro P hf
    rw [rc_s, rc_s, (hs_eq (fun P h => ih h) hf).1]
/-- the first roll -/
def rl (T : NN) (a b : Nat) (G : Bool) (n : Nat) (P : Nat → Nat) : Nat := match hsF T a b G n P with
  | none => 0
  | some h => match wyF T a b G n P h with
    | none => 0
    | some i => 20 * h + wy T P h i
theorem rl_eq {T : NN} {a b n : Nat} {P : Nat → Nat} (hf : ∀ m, m < n + 1 → rc T a b true m P = false) : rl T a b false n P = rl T a b true n P := by
  obtain ⟨h1, h2⟩ := hs_eq (fun P h => rc_eq h) hf
  unfold rl
  rw [h1]
  cases c : hsF T a b true n P with
  | none => rfl
  | some h => show (match wyF T a b false n P h with | none => 0 | some i => 20 * h + wy T P h i) = _; rw [h2 h (fst1_lt c)]
def IP (T : NN) (P : Nat → Nat) : Prop := (∀ h, h < T 0 1 → P h < T 0 0) ∧ dsj T P
theorem wy_lt {T : NN} {P : Nat → Nat} {h i : Nat} (hI : IT T) (hP : IP T P) (hh : h < T 0 1) (hi : i < (ways T P h).length) : wy T P h i < T 0 0 := (mem_wayF hI (hP.1 h hh) (getD_mem hi)).2.1
theorem IP_mv {T : NN} {P : Nat → Nat} {h i : Nat} (hI : IT T) (hP : IP T P) (hh : h < T 0 1) (hi : i < (ways T P h).length) : IP T (mvP T P h i) := by
  refine ⟨fun a ha => ?_, dsj_move hI hP.2 (hP.1 h hh) hh (getD_mem hi)⟩
  unfold mvP pU
  split
  · exact wy_lt hI hP hh hi
  · exact hP.1 a ha
