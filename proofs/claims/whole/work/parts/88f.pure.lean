/-! the reference's search, whole -/
def cst : Nat → Nat
  | 0 => 0
  | m + 1 => 64 * cst m + 73
section
variable {T : NN} {a b n : Nat} {k5 k7 : GS → Option (Int32 × GS)}
noncomputable def FB (k5 k7 : GS → Option (Int32 × GS)) (n a b : Nat) := BX5_firstRow_29 k5 (nI n) (nI a) (nI b) k7
def RSL (k5 k7 : GS → Option (Int32 × GS)) (n : Nat) (T : NN) (a b d m : Nat) (P : Nat → Nat) (g : GS) (fuel C : Nat) (out : Option (Int32 × GS)) : Prop :=
  (rc T a b true (m + 1) P = true ∧ ∃ g', out = k7 g' ∧ fR d g g' ∧ g' 18 d = nI (rl T a b true m P)) ∨
  (rc T a b true (m + 1) P = false ∧ ∃ g' f', out = lq2 (FB k5 k7 n a b) f' (nI d + (-1 : Int32)) g' ∧ fuel ≤ f' + C ∧ fR d g g')
def SUB (k5 k7 : GS → Option (Int32 × GS)) (n : Nat) (T : NN) (a b m : Nat) : Prop := ∀ d, d + m + 1 = n → ∀ (g : GS) (P : Nat → Nat) (fuel : Nat), IP T P → ST g T d P 0 0 → cst (m + 1) ≤ fuel → RSL k5 k7 n T a b d m P g fuel (cst (m + 1)) (lq2 (FB k5 k7 n a b) fuel (nI d) g)
def WST (k5 k7 : GS → Option (Int32 × GS)) (n : Nat) (T : NN) (a b d m : Nat) : Prop := ∀ (g : GS) (P : Nat → Nat) (h w fuel : Nat), IP T P → h < T 0 1 → w < (ways T P h).length → ST g T d P h w → 1 + cst m ≤ fuel →
  (rc T a b true m (mvP T P h w) = true ∧ ∃ g', lq2 (FB k5 k7 n a b) fuel (nI d) g = k7 g' ∧ fR d g g' ∧ g' 18 d = nI (20 * h + wy T P h w)) ∨
  (rc T a b true m (mvP T P h w) = false ∧ ∃ g' f', lq2 (FB k5 k7 n a b) fuel (nI d) g = lq2 (FB k5 k7 n a b) f' (nI d) g' ∧ fuel ≤ f' + (1 + cst m) ∧ fR d g g' ∧ ST g' T d P h (w + 1))
theorem wst_0 {d : Nat} (hI : IT T) (ha : a < T 0 1) (hb : b < T 0 1) (hd : d < 5) (hn : d + 1 = n) : WST k5 k7 n T a b d 0 := by
  intro g P h w fuel hP hh hw hS hf
  obtain ⟨q, rfl⟩ : ∃ q, fuel = q + 1 := ⟨fuel - 1, by omega⟩
  obtain ⟨g1, f, s1, s2, s3, s4⟩ := st_W (k5 := k5) (k7 := k7) (n := n) (a := a) (b := b) hI hP (by omega) hh hw hS
  have hP' := IP_mv hI hP hh hw
  have hbs := r_areBeside s1.1 hI s2 hP'.1 ha hb
  have e : lq2 (FB k5 k7 n a b) (q + 1) (nI d) g = FB k5 k7 n a b (lq2 (FB k5 k7 n a b) q) (nI d) g := rfl
  have e1 : nI d + (1 : Int32) = nI n := by rw [← hn]; exact nI_add d 1
  unfold FB at e ⊢
  rw [s4, if_pos e1, hbs, bnd1_s] at e
  cases c : bes T (mvP T P h w) a b with
  | true =>
    left
    rw [c, bI_t, if_neg (show ¬ nI 1 = 0 by decide)] at e
    exact ⟨c, g1, e, f, s3⟩
  | false =>
    right
    rw [c, bI_f, if_pos (show nI 0 = 0 from rfl)] at e
    exact ⟨c, g1, q, e, by unfold cst; omega, f, s1⟩
theorem wst_s {d m : Nat} (hI : IT T) (hd : d < 5) (hn : d + (m + 1) + 1 = n) (hn5 : n ≤ 5) (hSub : SUB k5 k7 n T a b m) : WST k5 k7 n T a b d (m + 1) := by
  intro g P h w fuel hP hh hw hS hf
  have i2 := hI.1.2.2.1
  obtain ⟨q, rfl⟩ : ∃ q, fuel = q + 1 := ⟨fuel - 1, by omega⟩
  obtain ⟨g1, f, s1, s2, s3, s4⟩ := st_W (k5 := k5) (k7 := k7) (n := n) (a := a) (b := b) hI hP (by omega) hh hw hS
  have hP' := IP_mv hI hP hh hw
  have e : lq2 (FB k5 k7 n a b) (q + 1) (nI d) g = FB k5 k7 n a b (lq2 (FB k5 k7 n a b) q) (nI d) g := rfl
  have e1 : nI d + (1 : Int32) = nI (d + 1) := nI_add d 1
  obtain ⟨g2, t1, t2, t3, t4, t5⟩ := r_enter (g := g1) (d := d + 1) (by omega)
  have e2 : FB k5 k7 n a b (lq2 (FB k5 k7 n a b) q) (nI d) g = lq2 (FB k5 k7 n a b) q (nI (d + 1)) g2 := by
    unfold FB
    rw [s4, e1, if_neg (nI_no (by omega) (by omega) (by omega)), nm_c, t1, bnd1_s]
  have fe : ∀ i j, i ≠ 15 → i ≠ 16 → i ≠ 17 → g2 i j = g1 i j := fun i j x y z => t5 i j (fun v => absurd v x) (fun v => by omega)
  have f12 : fR (d + 1) g1 g2 := fun i j p q r s t => t5 i j s (fun v => by have := t (by omega); omega)
  have S2 : ST g2 T (d + 1) (mvP T P h w) 0 0 := ⟨s1.1.fR f12, fun q hq => by rw [t2 q (by omega)]; exact s2 q hq, t3, t4⟩
  rw [e, e2]
  have kp : ∀ g', fR (d + 1) g1 g' → ST g' T d P h (w + 1) := fun g' v => ⟨s1.1.fR v, fun q hq => by rw [v 15 _ (by simp) (by decide) (by decide) (fun _ => by omega) (by simp)]; exact s1.2.1 q hq, by rw [v 16 d (by simp) (by decide) (by decide) (by simp) (fun _ => by omega)]; exact s1.2.2.1, by rw [v 17 d (by simp) (by decide) (by decide) (by simp) (fun _ => by omega)]; exact s1.2.2.2⟩
  rcases hSub (d + 1) (by omega) g2 (mvP T P h w) q hP' S2 (by omega) with ⟨c, g', u1, u2, u3⟩ | ⟨c, g', f', u1, u2, u3⟩
  · left
    exact ⟨c, g', u1, f.trans (f12.trans u2).s, by rw [u2 18 d (by simp) (by decide) (by decide) (by simp) (fun _ => by omega), fe 18 d (by decide) (by decide) (by decide)]; exact s3⟩
  · right
    refine ⟨c, g', f', ?_, by omega, f.trans (f12.trans u3).s, kp g' (f12.trans u3)⟩
    rw [u1, show nI (d + 1) + (-1 : Int32) = nI d from addm (n := d + 1) (by omega)]
theorem scan_w {d m : Nat} (hI : IT T) (hd : d < 5) (hW : WST k5 k7 n T a b d m) {P : Nat → Nat} (hP : IP T P) {h : Nat} (hh : h < T 0 1) : ∀ (s w : Nat) (g : GS) (fuel : Nat), w + s = (ways T P h).length → ST g T d P h w → fst1 (fun i => rc T a b true m (mvP T P h i)) w = none → s * (1 + cst m) + 1 ≤ fuel →
    (∃ i, wyF T a b true m P h = some i ∧ ∃ g', lq2 (FB k5 k7 n a b) fuel (nI d) g = k7 g' ∧ fR d g g' ∧ g' 18 d = nI (20 * h + wy T P h i)) ∨
    (wyF T a b true m P h = none ∧ ∃ g' f', lq2 (FB k5 k7 n a b) fuel (nI d) g = lq2 (FB k5 k7 n a b) f' (nI d) g' ∧ fuel ≤ f' + (s * (1 + cst m) + 1) ∧ fR d g g' ∧ ST g' T d P (h + 1) 0) := by
  intro s
  induction s with
  | zero =>
    intro w g fuel hw hS hf hfu
    have : w = (ways T P h).length := by omega
    subst this
    obtain ⟨q, rfl⟩ : ∃ q, fuel = q + 1 := ⟨fuel - 1, by omega⟩
    obtain ⟨g1, f, s1, s2⟩ := st_N (k5 := k5) (k7 := k7) (n := n) (a := a) (b := b) hI hP (by omega) hh hS
    right
    exact ⟨hf, g1, q, s2 _, by omega, f, s1⟩
  | succ s ih =>
    intro w g fuel hw hS hf hfu
    have hmul : (s + 1) * (1 + cst m) = s * (1 + cst m) + (1 + cst m) := Nat.succ_mul _ _
    have hs := fst1_s0 hf
    have hwl : w < (ways T P h).length := by omega
    rcases hW g P h w fuel hP hh hwl hS (by omega) with ⟨c, g', u1, u2, u3⟩ | ⟨c, g', f', u1, u2, u3, u4⟩
    · left
      rw [if_pos c] at hs
      exact ⟨w, fst1_mono hs hwl, g', u1, u2, u3⟩
    · rw [if_neg (by rw [c]; decide)] at hs
      rcases ih (w + 1) g' f' (by omega) u4 hs (by omega) with ⟨i, v1, g'', v2, v3, v4⟩ | ⟨v1, g'', f'', v2, v3, v4, v5⟩
      · exact Or.inl ⟨i, v1, g'', u1.trans v2, u3.trans v3, v4⟩
      · exact Or.inr ⟨v1, g'', f'', u1.trans v2, by omega, u3.trans v4, v5⟩
theorem scan_h {d m : Nat} (hI : IT T) (hd : d < 5) (hW : WST k5 k7 n T a b d m) {P : Nat → Nat} (hP : IP T P) : ∀ (r h : Nat) (g : GS) (fuel : Nat), h + r = T 0 1 → ST g T d P h 0 → fst1 (fun h => (true || hlp a b m h) && (wyF T a b true m P h).isSome) h = none → r * (8 * (1 + cst m) + 1) + 1 ≤ fuel → RSL k5 k7 n T a b d m P g fuel (r * (8 * (1 + cst m) + 1) + 1) (lq2 (FB k5 k7 n a b) fuel (nI d) g) := by
  intro r
  induction r with
  | zero =>
    intro h g fuel hh hS hf hfu
    have : h = T 0 1 := by omega
    subst this
    obtain ⟨q, rfl⟩ : ∃ q, fuel = q + 1 := ⟨fuel - 1, by omega⟩
    obtain ⟨g1, f, s2⟩ := st_E (k5 := k5) (k7 := k7) (n := n) (a := a) (b := b) hI (by omega) hS
    refine Or.inr ⟨?_, g1, q, s2 _, by omega, f⟩
    rw [rc_s]; unfold hsF; rw [hf]; rfl
  | succ r ih =>
    intro h g fuel hh hS hf hfu
    have hh' : h < T 0 1 := by omega
    have hlen := ways_len (P := P) (h := h) hI
    have hmul : (r + 1) * (8 * (1 + cst m) + 1) = r * (8 * (1 + cst m) + 1) + (8 * (1 + cst m) + 1) := Nat.succ_mul _ _
    have hle : (ways T P h).length * (1 + cst m) ≤ 8 * (1 + cst m) := Nat.mul_le_mul_right _ hlen
    have hs := fst1_s0 hf
    rcases scan_w hI hd hW hP hh' (ways T P h).length 0 g fuel (by omega) hS rfl (by omega) with ⟨i, v1, g', v2, v3, v4⟩ | ⟨v1, g', f', v2, v3, v4, v5⟩
    · rw [if_pos (by rw [v1]; rfl)] at hs
      have h2 : hsF T a b true m P = some h := fst1_mono hs hh'
      refine Or.inl ⟨by rw [rc_s, h2]; rfl, g', v2, v3, ?_⟩
      rw [v4]
      unfold rl
      rw [h2]
      show _ = nI (match wyF T a b true m P h with | none => 0 | some j => 20 * h + wy T P h j)
      rw [v1]
    · rw [if_neg (by rw [v1]; simp)] at hs
      rcases ih (h + 1) g' f' (by omega) v5 hs (by omega) with ⟨c, g'', u1, u2, u3⟩ | ⟨c, g'', f'', u1, u2, u3⟩
      · exact Or.inl ⟨c, g'', v2.trans u1, v4.trans u2, u3⟩
      · exact Or.inr ⟨c, g'', f'', v2.trans u1, by omega, v4.trans u3⟩
theorem sub_of {m : Nat} (hI : IT T) (hn5 : n ≤ 5) (hW : ∀ d, d + m + 1 = n → WST k5 k7 n T a b d m) : SUB k5 k7 n T a b m := by
  intro d hd g P fuel hP hS hf
  have i2 := hI.1.2.2.1
  have hle : T 0 1 * (8 * (1 + cst m) + 1) ≤ 8 * (8 * (1 + cst m) + 1) := Nat.mul_le_mul_right _ i2
  have hc : cst (m + 1) = 64 * cst m + 73 := rfl
  rcases scan_h hI (by omega) (hW d hd) hP (T 0 1) 0 g fuel (by omega) hS rfl (by omega) with ⟨c, g', u1, u2, u3⟩ | ⟨c, g', f', u1, u2, u3⟩
  · exact Or.inl ⟨c, g', u1, u2, u3⟩
  · exact Or.inr ⟨c, g', f', u1, by omega, u3⟩
theorem sub_all (hI : IT T) (ha : a < T 0 1) (hb : b < T 0 1) (hn5 : n ≤ 5) : ∀ m, m + 1 ≤ n → SUB k5 k7 n T a b m := by
  intro m
  induction m with
  | zero => intro _; exact sub_of hI hn5 fun d hd => wst_0 hI ha hb (by omega) (by omega)
  | succ m ih => intro hm; exact sub_of hI hn5 fun d hd => wst_s hI (by omega) (by omega) hn5 (ih (by omega))
end
