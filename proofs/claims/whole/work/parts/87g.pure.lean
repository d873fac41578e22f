/-! a line -/
def LFL (L : Nat) (Bt : Nat → Nat) (ln w : Nat) (T : NN) (A : Option (Int32 × GS × GS)) (Bo : Option (Int32 × GS × Int64)) (m : GS) : Prop :=
  (∃ xT' tT' m' tk' b e, A = some (nI 0, xT', tT') ∧ Bo = some (nI 0, m', tk') ∧ XT xT' L Bt e ln ∧ xT' 0 3 = nI b ∧ b ≤ L ∧ m' 0 18 = nI b ∧ fPs m m' w) ∨
  (∃ c xT' tT' m' tk' e a1 a2, A = some (nI 1, xT', tT') ∧ Bo = some (nI 1, m', tk') ∧ XT xT' L Bt e ln ∧ e ≤ L ∧ MT m' L Bt e ∧ RT tT' (doA T c a1 a2) ∧ IT (doA T c a1 a2) ∧ CN m' (doA T c a1 a2) ∧ okA T c a1 ∧ lineR m' w c a1 a2 ∧ fPs m m' w)
theorem LFS.l {L ln w c : Nat} {Bt : Nat → Nat} {T : NN} {A : Option (Int32 × GS × GS)} {Bo : Option (Int32 × GS × Int64)} {m m0 : GS} (h : LFS L Bt ln w T c A Bo m) (f : fPs m0 m w) : LFL L Bt ln w T (bnd3 A fun r x t => chkB r (some (r, x, t))) (bnd3 Bo fun r x t => chkB r (some (r, x, t))) m0 := by
  rcases h with ⟨xT', tT', m', tk', b, e, h1, h2, h3, h4, h5, h6, h7⟩ | ⟨xT', tT', m', tk', e, a1, a2, h1, h2, h3, h4, h5, h6, h7, h8, h9, h10, h11⟩
  · left
    rw [h1, h2]
    simp (disch := omega) only [nm, jn0, jn1, jn2, jn3, jn4, jn5, bnd1_s, bnd2_s, bnd3_s, bnd4_s, lit_n, neg1, chkI_n, chkZ_n, chkC_n, bI_B, chkB_0, chkB_1, bI_t, bI_f, clamp_n, nI_add, subn, remn2, nat_rem, divn, pk_mul, ifle_t, ifle_f, iflt_t, iflt_f, ifeq_t, ifeq_f, ifm_f, ifm_t, if_true, if_false]
    exact ⟨_, _, _, _, b, e, rfl, rfl, h3, h4, h5, h6, f.trans h7⟩
  · right
    rw [h1, h2]
    simp (disch := omega) only [nm, jn0, jn1, jn2, jn3, jn4, jn5, bnd1_s, bnd2_s, bnd3_s, bnd4_s, lit_n, neg1, chkI_n, chkZ_n, chkC_n, bI_B, chkB_0, chkB_1, bI_t, bI_f, clamp_n, nI_add, subn, remn2, nat_rem, divn, pk_mul, ifle_t, ifle_f, iflt_t, iflt_f, ifeq_t, ifeq_f, ifm_f, ifm_t, if_true, if_false]
    exact ⟨c, _, _, _, _, e, a1, a2, rfl, rfl, h3, h4, h5, h6, h7, h8, h9, h10, f.trans h11⟩
theorem MT_7 {m : GS} {L e w : Nat} {Bt : Nat → Nat} {v : Int32} (h : MT m L Bt e) : MT (upA m 7 (upd (m 7) w v)) L Bt e := by
  obtain ⟨x1, x2, x3, x4⟩ := h
  exact ⟨by rw [upA_r (by decide)]; exact x1, by rw [upA_r (by decide)]; exact x2, x3, fun i hi => by rw [upA_r (by decide)]; exact x4 i hi⟩
theorem CN_7 {m : GS} {T : NN} {w : Nat} {v : Int32} (h : CN m T) : CN (upA m 7 (upd (m 7) w v)) T := by
  obtain ⟨a, b, c, d, e⟩ := h
  exact ⟨by rw [upA_r (by decide)]; exact a, by rw [upA_r (by decide)]; exact b, by rw [upA_r (by decide)]; exact c, by rw [upA_r (by decide)]; exact d, by rw [upA_r (by decide)]; exact e⟩
theorem CN_t {m m' : GS} {T : NN} (h : CN m T) (f : fTk m m') : CN m' T := h.N (f.m (w := 0))
theorem fPs_7 {m : GS} {w : Nat} {v : Int32} : fPs m (upA m 7 (upd (m 7) w v)) w := fun i j _ b => by
  by_cases c : i = 7
  · subst c
    have := b rfl
    rw [upA_s, pk_un (by omega)]
  · rw [upA_r c]
theorem jn1_c {A β : Type} {K : A → Option β} {C : (A → Option β) → Option β} {a : A} (h : ∀ k, C k = k a) : jn1 K C = K a := h K
theorem nm_c {A β : Type} {e : A} {k : A → Option β} : nm e k = k e := rfl
theorem ok36 {w : Nat} (h : w + 2 < 36) {β : Type} {k : Option β} : chkI (nI w) 36 k = k := chkI_n (by omega) (by decide)
set_option maxHeartbeats 8000000 in
theorem l_line {L p ln w : Nat} {Bt : Nat → Nat} {xT tT mM : GS} {T : NN} (tk : Int64) (hX : XT xT L Bt (tE L Bt (tB L Bt p)) ln) (h3 : xT 0 3 = nI (tB L Bt p)) (hp : p ≤ L) (hT : RT tT T) (hI : IT T) (hM : MT mM L Bt p) (hC : CN mM T) (hw : w + 2 < 36) : LFL L Bt ln w T (MX2_readLine xT tT) (MX5_isLine mM tk (nI w)) mM := by
  have hb1 : p ≤ tB L Bt p ∧ tB L Bt p ≤ L := rn_le (g := fun i => decide (Bt i = 32)) hp
  have he1 : tB L Bt p ≤ tE L Bt (tB L Bt p) ∧ tE L Bt (tB L Bt p) ≤ L := rn_le (g := gB Bt (tB L Bt p)) hb1.2
  obtain ⟨m1, k1, k2, k3, k4, -⟩ := r_nextToken hM hp tk
  have C1 := CN_t hC k2
  obtain ⟨b, hb⟩ : ∃ b, b = tB L Bt p := ⟨_, rfl⟩
  rw [← hb] at hX h3 k1 k3 k4 he1 hb1
  have iw := fun j (hj : j < 13) => p_isWord hX h3 he1.1 he1.2 hj
  have f1 : ∀ v, fPs mM (upA m1 7 (upd (m1 7) w v)) w := fun v => (k2.p (w := w)).trans fPs_7
  have at7 : ∀ c, AtW L Bt b (tE L Bt b) ln w c xT tT (upA m1 7 (upd (m1 7) w (nI c))) T := fun c => ⟨hX, h3, hb1.2, he1.2, hT, hI, MT_7 k3, by rw [upA_r (by decide)]; exact k4, CN_7 C1, by rw [upA_s, pk_us], hw⟩
  obtain ⟨V0, V1, V2, V3, V4, V5, V6, V7, V8, V9, V10, V11, V12⟩ := WV_v
  cases hwd : wd L Bt b with
  | some k =>
    obtain ⟨hk, etk, hww⟩ := wd_some hb1.2 hwd
    have hkk : k = 0 ∨ k = 1 ∨ k = 2 ∨ k = 3 ∨ k = 4 ∨ k = 5 ∨ k = 6 ∨ k = 7 ∨ k = 8 ∨ k = 9 ∨ k = 10 ∨ k = 11 ∨ k = 12 := by omega
    rcases hkk with rfl | rfl | rfl | rfl | rfl | rfl | rfl | rfl | rfl | rfl | rfl | rfl | rfl
    · rw [V0] at etk
      have w0 : MX2_isWord (wL 0) (wB 0) xT = some (nI 1) := (iw 0 (by decide)).trans (by rw [hww 0 (by decide)]; rfl)
      have w1 : MX2_isWord (wL 1) (wB 1) xT = some (nI 0) := (iw 1 (by decide)).trans (by rw [hww 1 (by decide)]; rfl)
      have w2 : MX2_isWord (wL 2) (wB 2) xT = some (nI 0) := (iw 2 (by decide)).trans (by rw [hww 2 (by decide)]; rfl)
      have w3 : MX2_isWord (wL 3) (wB 3) xT = some (nI 0) := (iw 3 (by decide)).trans (by rw [hww 3 (by decide)]; rfl)
      have w4 : MX2_isWord (wL 4) (wB 4) xT = some (nI 0) := (iw 4 (by decide)).trans (by rw [hww 4 (by decide)]; rfl)
      have w5 : MX2_isWord (wL 5) (wB 5) xT = some (nI 0) := (iw 5 (by decide)).trans (by rw [hww 5 (by decide)]; rfl)
      have w6 : MX2_isWord (wL 6) (wB 6) xT = some (nI 0) := (iw 6 (by decide)).trans (by rw [hww 6 (by decide)]; rfl)
      have w7 : MX2_isWord (wL 7) (wB 7) xT = some (nI 0) := (iw 7 (by decide)).trans (by rw [hww 7 (by decide)]; rfl)
      have w8 : MX2_isWord (wL 8) (wB 8) xT = some (nI 0) := (iw 8 (by decide)).trans (by rw [hww 8 (by decide)]; rfl)
      have w9 : MX2_isWord (wL 9) (wB 9) xT = some (nI 0) := (iw 9 (by decide)).trans (by rw [hww 9 (by decide)]; rfl)
      have w10 : MX2_isWord (wL 10) (wB 10) xT = some (nI 0) := (iw 10 (by decide)).trans (by rw [hww 10 (by decide)]; rfl)
      have w11 : MX2_isWord (wL 11) (wB 11) xT = some (nI 0) := (iw 11 (by decide)).trans (by rw [hww 11 (by decide)]; rfl)
      have w12 : MX2_isWord (wL 12) (wB 12) xT = some (nI 0) := (iw 12 (by decide)).trans (by rw [hww 12 (by decide)]; rfl)
      obtain ⟨m2, hm2⟩ : ∃ m2, upA m1 7 (upd (m1 7) w (nI 0)) = m2 := ⟨_, rfl⟩
      have hcl : (nI w).toNatClampNeg = w := nI_clamp (by omega)
      have e7 : m2 7 w = nI 0 := by rw [← hm2, upA_s, pk_us]
      have a7 := at7 0
      have ff := f1 (nI 0)
      rw [hm2] at a7 ff
      have hA : MX2_readLine xT tT = bnd3 (MX2_readGreen xT tT) (fun r x t => chkB r (some (r, x, t))) := by
        unfold MX2_readLine MX2_kindHere
        simp (disch := omega) only [nm, jn0, jn1, jn2, jn3, jn4, jn5, bnd1_s, bnd2_s, bnd3_s, bnd4_s, lit_n, neg1, chkI_n, chkZ_n, chkC_n, bI_B, chkB_0, chkB_1, bI_t, bI_f, clamp_n, nI_add, subn, remn2, nat_rem, divn, pk_mul, ifle_t, ifle_f, iflt_t, iflt_f, ifeq_t, ifeq_f, ifm_f, ifm_t, if_true, if_false, w0, w1, w2, w3, w4, w5, w6, w7, w8, w9, w10, w11, w12]
      have hB : MX5_isLine mM tk (nI w) = bnd3 (MX5_isGreen m2 (lN 4078175) (nI w)) (fun r x t => chkB r (some (r, x, t))) := by
        unfold MX5_isLine
        rw [k1, bnd2_s]
        refine (jn1_c (a := (nI 0)) (fun k => by simp (disch := omega) only [nm, jn0, jn1, jn2, jn3, jn4, jn5, bnd1_s, bnd2_s, bnd3_s, bnd4_s, lit_n, neg1, chkI_n, chkZ_n, chkC_n, bI_B, chkB_0, chkB_1, bI_t, bI_f, clamp_n, nI_add, subn, remn2, nat_rem, divn, pk_mul, ifle_t, ifle_f, iflt_t, iflt_f, ifeq_t, ifeq_f, ifm_f, ifm_t, if_true, if_false, etk, l64_n, iflL_t, iflL_f])).trans ?_
        refine (jn1_c (a := mI) (fun k => by simp (disch := omega) only [nm, jn0, jn1, jn2, jn3, jn4, jn5, bnd1_s, bnd2_s, bnd3_s, bnd4_s, lit_n, neg1, chkI_n, chkZ_n, chkC_n, bI_B, chkB_0, chkB_1, bI_t, bI_f, clamp_n, nI_add, subn, remn2, nat_rem, divn, pk_mul, ifle_t, ifle_f, iflt_t, iflt_f, ifeq_t, ifeq_f, ifm_f, ifm_t, if_true, if_false, etk, l64_n, iflL_t, iflL_f])).trans ?_
        refine (jn1_c (a := (nI 0)) (fun k => by simp (disch := omega) only [nm, jn0, jn1, jn2, jn3, jn4, jn5, bnd1_s, bnd2_s, bnd3_s, bnd4_s, lit_n, neg1, chkI_n, chkZ_n, chkC_n, bI_B, chkB_0, chkB_1, bI_t, bI_f, clamp_n, nI_add, subn, remn2, nat_rem, divn, pk_mul, ifle_t, ifle_f, iflt_t, iflt_f, ifeq_t, ifeq_f, ifm_f, ifm_t, if_true, if_false])).trans ?_
        rw [ok36 hw, nm_c, hcl, hm2, ok36 hw]
        simp only [e7]
        rw [if_pos (show (nI 0) = (0 : Int32) by decide)]
        rw [etk]
      rw [hA, hB]
      exact LFS.l (l_green (lN 4078175) a7) ff
    · rw [V1] at etk
      have w0 : MX2_isWord (wL 0) (wB 0) xT = some (nI 0) := (iw 0 (by decide)).trans (by rw [hww 0 (by decide)]; rfl)
      have w1 : MX2_isWord (wL 1) (wB 1) xT = some (nI 1) := (iw 1 (by decide)).trans (by rw [hww 1 (by decide)]; rfl)
      have w2 : MX2_isWord (wL 2) (wB 2) xT = some (nI 0) := (iw 2 (by decide)).trans (by rw [hww 2 (by decide)]; rfl)
      have w3 : MX2_isWord (wL 3) (wB 3) xT = some (nI 0) := (iw 3 (by decide)).trans (by rw [hww 3 (by decide)]; rfl)
      have w4 : MX2_isWord (wL 4) (wB 4) xT = some (nI 0) := (iw 4 (by decide)).trans (by rw [hww 4 (by decide)]; rfl)
      have w5 : MX2_isWord (wL 5) (wB 5) xT = some (nI 0) := (iw 5 (by decide)).trans (by rw [hww 5 (by decide)]; rfl)
      have w6 : MX2_isWord (wL 6) (wB 6) xT = some (nI 0) := (iw 6 (by decide)).trans (by rw [hww 6 (by decide)]; rfl)
      have w7 : MX2_isWord (wL 7) (wB 7) xT = some (nI 0) := (iw 7 (by decide)).trans (by rw [hww 7 (by decide)]; rfl)
      have w8 : MX2_isWord (wL 8) (wB 8) xT = some (nI 0) := (iw 8 (by decide)).trans (by rw [hww 8 (by decide)]; rfl)
      have w9 : MX2_isWord (wL 9) (wB 9) xT = some (nI 0) := (iw 9 (by decide)).trans (by rw [hww 9 (by decide)]; rfl)
      have w10 : MX2_isWord (wL 10) (wB 10) xT = some (nI 0) := (iw 10 (by decide)).trans (by rw [hww 10 (by decide)]; rfl)
      have w11 : MX2_isWord (wL 11) (wB 11) xT = some (nI 0) := (iw 11 (by decide)).trans (by rw [hww 11 (by decide)]; rfl)
      have w12 : MX2_isWord (wL 12) (wB 12) xT = some (nI 0) := (iw 12 (by decide)).trans (by rw [hww 12 (by decide)]; rfl)
      obtain ⟨m2, hm2⟩ : ∃ m2, upA m1 7 (upd (m1 7) w (nI 1)) = m2 := ⟨_, rfl⟩
      have hcl : (nI w).toNatClampNeg = w := nI_clamp (by omega)
      have e7 : m2 7 w = nI 1 := by rw [← hm2, upA_s, pk_us]
      have a7 := at7 1
      have ff := f1 (nI 1)
      rw [hm2] at a7 ff
      have hA : MX2_readLine xT tT = bnd3 (MX2_readCrop xT tT) (fun r x t => chkB r (some (r, x, t))) := by
        unfold MX2_readLine MX2_kindHere
        simp (disch := omega) only [nm, jn0, jn1, jn2, jn3, jn4, jn5, bnd1_s, bnd2_s, bnd3_s, bnd4_s, lit_n, neg1, chkI_n, chkZ_n, chkC_n, bI_B, chkB_0, chkB_1, bI_t, bI_f, clamp_n, nI_add, subn, remn2, nat_rem, divn, pk_mul, ifle_t, ifle_f, iflt_t, iflt_f, ifeq_t, ifeq_f, ifm_f, ifm_t, if_true, if_false, w0, w1, w2, w3, w4, w5, w6, w7, w8, w9, w10, w11, w12]
      have hB : MX5_isLine mM tk (nI w) = bnd3 (MX5_isNumber m2 (lN 72592) (nI w + (1 : Int32)) (0 : Int32) ((m2 0 20) - (1 : Int32))) fun (r19 : Int32) (mM_20 : GS) (tk_21 : Int64) => jn3 (fun (mM_23 : GS) (tk_24 : Int64) (x25 : Int32) => chkB x25 (some (x25, mM_23, tk_24))) (fun k26 => jn2 (fun (mM_28 : GS) (tk_29 : Int64) => k26 mM_28 tk_29 (0 : Int32)) (fun k30 => if r19 = 0 then (k30 mM_20 tk_21) else (bnd3 (MX5_isNumber mM_20 tk_21 (nI w + (2 : Int32)) (0 : Int32) (9 : Int32)) fun (r32 : Int32) (mM_33 : GS) (tk_34 : Int64) => if r32 = 0 then (k30 mM_33 tk_34) else (k26 mM_33 tk_34 (1 : Int32))))) := by
        unfold MX5_isLine
        rw [k1, bnd2_s]
        refine (jn1_c (a := (nI 1)) (fun k => by simp (disch := omega) only [nm, jn0, jn1, jn2, jn3, jn4, jn5, bnd1_s, bnd2_s, bnd3_s, bnd4_s, lit_n, neg1, chkI_n, chkZ_n, chkC_n, bI_B, chkB_0, chkB_1, bI_t, bI_f, clamp_n, nI_add, subn, remn2, nat_rem, divn, pk_mul, ifle_t, ifle_f, iflt_t, iflt_f, ifeq_t, ifeq_f, ifm_f, ifm_t, if_true, if_false, etk, l64_n, iflL_t, iflL_f])).trans ?_
        refine (jn1_c (a := mI) (fun k => by simp (disch := omega) only [nm, jn0, jn1, jn2, jn3, jn4, jn5, bnd1_s, bnd2_s, bnd3_s, bnd4_s, lit_n, neg1, chkI_n, chkZ_n, chkC_n, bI_B, chkB_0, chkB_1, bI_t, bI_f, clamp_n, nI_add, subn, remn2, nat_rem, divn, pk_mul, ifle_t, ifle_f, iflt_t, iflt_f, ifeq_t, ifeq_f, ifm_f, ifm_t, if_true, if_false, etk, l64_n, iflL_t, iflL_f])).trans ?_
        refine (jn1_c (a := (nI 1)) (fun k => by simp (disch := omega) only [nm, jn0, jn1, jn2, jn3, jn4, jn5, bnd1_s, bnd2_s, bnd3_s, bnd4_s, lit_n, neg1, chkI_n, chkZ_n, chkC_n, bI_B, chkB_0, chkB_1, bI_t, bI_f, clamp_n, nI_add, subn, remn2, nat_rem, divn, pk_mul, ifle_t, ifle_f, iflt_t, iflt_f, ifeq_t, ifeq_f, ifm_f, ifm_t, if_true, if_false])).trans ?_
        rw [ok36 hw, nm_c, hcl, hm2, ok36 hw]
        simp only [e7]
        rw [if_neg (show ¬ (nI 1) = (0 : Int32) by decide), if_pos (show (nI 1) = (1 : Int32) by decide)]
        rw [etk]
      rw [hA, hB]
      rcases l_crop (lN 72592) a7 with ⟨xT', tT', m', tk', b', e', h1, h2, h3', h4, h5, h6, h7⟩ | ⟨xT', tT', m', tk', e', a1, a2, h1, h2, h3', h4, h5, h6, h7, h8, h9, h10, h11⟩
      · left
        rw [h1, h2]
        simp (disch := omega) only [nm, jn0, jn1, jn2, jn3, jn4, jn5, bnd1_s, bnd2_s, bnd3_s, bnd4_s, lit_n, neg1, chkI_n, chkZ_n, chkC_n, bI_B, chkB_0, chkB_1, bI_t, bI_f, clamp_n, nI_add, subn, remn2, nat_rem, divn, pk_mul, ifle_t, ifle_f, iflt_t, iflt_f, ifeq_t, ifeq_f, ifm_f, ifm_t, if_true, if_false]
        exact ⟨_, _, _, _, b', e', rfl, rfl, h3', h4, h5, h6, ff.trans h7⟩
      · right
        rw [h1, h2]
        simp (disch := omega) only [nm, jn0, jn1, jn2, jn3, jn4, jn5, bnd1_s, bnd2_s, bnd3_s, bnd4_s, lit_n, neg1, chkI_n, chkZ_n, chkC_n, bI_B, chkB_0, chkB_1, bI_t, bI_f, clamp_n, nI_add, subn, remn2, nat_rem, divn, pk_mul, ifle_t, ifle_f, iflt_t, iflt_f, ifeq_t, ifeq_f, ifm_f, ifm_t, if_true, if_false]
        exact ⟨1, _, _, _, _, e', a1, a2, rfl, rfl, h3', h4, h5, h6, h7, h8, h9, h10, ff.trans h11⟩
    · rw [V2] at etk
      have w0 : MX2_isWord (wL 0) (wB 0) xT = some (nI 0) := (iw 0 (by decide)).trans (by rw [hww 0 (by decide)]; rfl)
      have w1 : MX2_isWord (wL 1) (wB 1) xT = some (nI 0) := (iw 1 (by decide)).trans (by rw [hww 1 (by decide)]; rfl)
      have w2 : MX2_isWord (wL 2) (wB 2) xT = some (nI 1) := (iw 2 (by decide)).trans (by rw [hww 2 (by decide)]; rfl)
      have w3 : MX2_isWord (wL 3) (wB 3) xT = some (nI 0) := (iw 3 (by decide)).trans (by rw [hww 3 (by decide)]; rfl)
      have w4 : MX2_isWord (wL 4) (wB 4) xT = some (nI 0) := (iw 4 (by decide)).trans (by rw [hww 4 (by decide)]; rfl)
      have w5 : MX2_isWord (wL 5) (wB 5) xT = some (nI 0) := (iw 5 (by decide)).trans (by rw [hww 5 (by decide)]; rfl)
      have w6 : MX2_isWord (wL 6) (wB 6) xT = some (nI 0) := (iw 6 (by decide)).trans (by rw [hww 6 (by decide)]; rfl)
      have w7 : MX2_isWord (wL 7) (wB 7) xT = some (nI 0) := (iw 7 (by decide)).trans (by rw [hww 7 (by decide)]; rfl)
      have w8 : MX2_isWord (wL 8) (wB 8) xT = some (nI 0) := (iw 8 (by decide)).trans (by rw [hww 8 (by decide)]; rfl)
      have w9 : MX2_isWord (wL 9) (wB 9) xT = some (nI 0) := (iw 9 (by decide)).trans (by rw [hww 9 (by decide)]; rfl)
      have w10 : MX2_isWord (wL 10) (wB 10) xT = some (nI 0) := (iw 10 (by decide)).trans (by rw [hww 10 (by decide)]; rfl)
      have w11 : MX2_isWord (wL 11) (wB 11) xT = some (nI 0) := (iw 11 (by decide)).trans (by rw [hww 11 (by decide)]; rfl)
      have w12 : MX2_isWord (wL 12) (wB 12) xT = some (nI 0) := (iw 12 (by decide)).trans (by rw [hww 12 (by decide)]; rfl)
      obtain ⟨m2, hm2⟩ : ∃ m2, upA m1 7 (upd (m1 7) w (nI 2)) = m2 := ⟨_, rfl⟩
      have hcl : (nI w).toNatClampNeg = w := nI_clamp (by omega)
      have e7 : m2 7 w = nI 2 := by rw [← hm2, upA_s, pk_us]
      have a7 := at7 2
      have ff := f1 (nI 2)
      rw [hm2] at a7 ff
      have hA : MX2_readLine xT tT = bnd3 (MX2_readHouse xT tT (nI 0)) (fun r x t => chkB r (some (r, x, t))) := by
        unfold MX2_readLine MX2_kindHere
        simp (disch := omega) only [nm, jn0, jn1, jn2, jn3, jn4, jn5, bnd1_s, bnd2_s, bnd3_s, bnd4_s, lit_n, neg1, chkI_n, chkZ_n, chkC_n, bI_B, chkB_0, chkB_1, bI_t, bI_f, clamp_n, nI_add, subn, remn2, nat_rem, divn, pk_mul, ifle_t, ifle_f, iflt_t, iflt_f, ifeq_t, ifeq_f, ifm_f, ifm_t, if_true, if_false, w0, w1, w2, w3, w4, w5, w6, w7, w8, w9, w10, w11, w12]
      have hB : MX5_isLine mM tk (nI w) = bnd3 (MX5_isHouseLine m2 (lN 201783983) (nI w) (nI 0)) (fun r x t => chkB r (some (r, x, t))) := by
        unfold MX5_isLine
        rw [k1, bnd2_s]
        refine (jn1_c (a := (nI 2)) (fun k => by simp (disch := omega) only [nm, jn0, jn1, jn2, jn3, jn4, jn5, bnd1_s, bnd2_s, bnd3_s, bnd4_s, lit_n, neg1, chkI_n, chkZ_n, chkC_n, bI_B, chkB_0, chkB_1, bI_t, bI_f, clamp_n, nI_add, subn, remn2, nat_rem, divn, pk_mul, ifle_t, ifle_f, iflt_t, iflt_f, ifeq_t, ifeq_f, ifm_f, ifm_t, if_true, if_false, etk, l64_n, iflL_t, iflL_f])).trans ?_
        refine (jn1_c (a := mI) (fun k => by simp (disch := omega) only [nm, jn0, jn1, jn2, jn3, jn4, jn5, bnd1_s, bnd2_s, bnd3_s, bnd4_s, lit_n, neg1, chkI_n, chkZ_n, chkC_n, bI_B, chkB_0, chkB_1, bI_t, bI_f, clamp_n, nI_add, subn, remn2, nat_rem, divn, pk_mul, ifle_t, ifle_f, iflt_t, iflt_f, ifeq_t, ifeq_f, ifm_f, ifm_t, if_true, if_false, etk, l64_n, iflL_t, iflL_f])).trans ?_
        refine (jn1_c (a := (nI 2)) (fun k => by simp (disch := omega) only [nm, jn0, jn1, jn2, jn3, jn4, jn5, bnd1_s, bnd2_s, bnd3_s, bnd4_s, lit_n, neg1, chkI_n, chkZ_n, chkC_n, bI_B, chkB_0, chkB_1, bI_t, bI_f, clamp_n, nI_add, subn, remn2, nat_rem, divn, pk_mul, ifle_t, ifle_f, iflt_t, iflt_f, ifeq_t, ifeq_f, ifm_f, ifm_t, if_true, if_false])).trans ?_
        rw [ok36 hw, nm_c, hcl, hm2, ok36 hw]
        simp only [e7]
        rw [if_neg (show ¬ (nI 2) = (0 : Int32) by decide), if_neg (show ¬ (nI 2) = (1 : Int32) by decide), if_pos (show (nI 2) = (2 : Int32) by decide)]
        rw [etk]
        rw [ok36 hw]
        refine (jn1_c (a := nI 0) (fun k => if_neg (by decide))).trans ?_
        rfl
      rw [hA, hB]
      exact LFS.l (l_house (k := 0) (lN 201783983) (by decide) a7) ff
    · rw [V3] at etk
      have w0 : MX2_isWord (wL 0) (wB 0) xT = some (nI 0) := (iw 0 (by decide)).trans (by rw [hww 0 (by decide)]; rfl)
      have w1 : MX2_isWord (wL 1) (wB 1) xT = some (nI 0) := (iw 1 (by decide)).trans (by rw [hww 1 (by decide)]; rfl)
      have w2 : MX2_isWord (wL 2) (wB 2) xT = some (nI 0) := (iw 2 (by decide)).trans (by rw [hww 2 (by decide)]; rfl)
      have w3 : MX2_isWord (wL 3) (wB 3) xT = some (nI 1) := (iw 3 (by decide)).trans (by rw [hww 3 (by decide)]; rfl)
      have w4 : MX2_isWord (wL 4) (wB 4) xT = some (nI 0) := (iw 4 (by decide)).trans (by rw [hww 4 (by decide)]; rfl)
      have w5 : MX2_isWord (wL 5) (wB 5) xT = some (nI 0) := (iw 5 (by decide)).trans (by rw [hww 5 (by decide)]; rfl)
      have w6 : MX2_isWord (wL 6) (wB 6) xT = some (nI 0) := (iw 6 (by decide)).trans (by rw [hww 6 (by decide)]; rfl)
      have w7 : MX2_isWord (wL 7) (wB 7) xT = some (nI 0) := (iw 7 (by decide)).trans (by rw [hww 7 (by decide)]; rfl)
      have w8 : MX2_isWord (wL 8) (wB 8) xT = some (nI 0) := (iw 8 (by decide)).trans (by rw [hww 8 (by decide)]; rfl)
      have w9 : MX2_isWord (wL 9) (wB 9) xT = some (nI 0) := (iw 9 (by decide)).trans (by rw [hww 9 (by decide)]; rfl)
      have w10 : MX2_isWord (wL 10) (wB 10) xT = some (nI 0) := (iw 10 (by decide)).trans (by rw [hww 10 (by decide)]; rfl)
      have w11 : MX2_isWord (wL 11) (wB 11) xT = some (nI 0) := (iw 11 (by decide)).trans (by rw [hww 11 (by decide)]; rfl)
      have w12 : MX2_isWord (wL 12) (wB 12) xT = some (nI 0) := (iw 12 (by decide)).trans (by rw [hww 12 (by decide)]; rfl)
      obtain ⟨m2, hm2⟩ : ∃ m2, upA m1 7 (upd (m1 7) w (nI 3)) = m2 := ⟨_, rfl⟩
      have hcl : (nI w).toNatClampNeg = w := nI_clamp (by omega)
      have e7 : m2 7 w = nI 3 := by rw [← hm2, upA_s, pk_us]
      have a7 := at7 3
      have ff := f1 (nI 3)
      rw [hm2] at a7 ff
      have hA : MX2_readLine xT tT = bnd3 (MX2_readHouse xT tT (nI 1)) (fun r x t => chkB r (some (r, x, t))) := by
        unfold MX2_readLine MX2_kindHere
        simp (disch := omega) only [nm, jn0, jn1, jn2, jn3, jn4, jn5, bnd1_s, bnd2_s, bnd3_s, bnd4_s, lit_n, neg1, chkI_n, chkZ_n, chkC_n, bI_B, chkB_0, chkB_1, bI_t, bI_f, clamp_n, nI_add, subn, remn2, nat_rem, divn, pk_mul, ifle_t, ifle_f, iflt_t, iflt_f, ifeq_t, ifeq_f, ifm_f, ifm_t, if_true, if_false, w0, w1, w2, w3, w4, w5, w6, w7, w8, w9, w10, w11, w12]
      have hB : MX5_isLine mM tk (nI w) = bnd3 (MX5_isHouseLine m2 (lN 60284) (nI w) (nI 0)) (fun r x t => chkB r (some (r, x, t))) := by
        unfold MX5_isLine
        rw [k1, bnd2_s]
        refine (jn1_c (a := (nI 3)) (fun k => by simp (disch := omega) only [nm, jn0, jn1, jn2, jn3, jn4, jn5, bnd1_s, bnd2_s, bnd3_s, bnd4_s, lit_n, neg1, chkI_n, chkZ_n, chkC_n, bI_B, chkB_0, chkB_1, bI_t, bI_f, clamp_n, nI_add, subn, remn2, nat_rem, divn, pk_mul, ifle_t, ifle_f, iflt_t, iflt_f, ifeq_t, ifeq_f, ifm_f, ifm_t, if_true, if_false, etk, l64_n, iflL_t, iflL_f])).trans ?_
        refine (jn1_c (a := mI) (fun k => by simp (disch := omega) only [nm, jn0, jn1, jn2, jn3, jn4, jn5, bnd1_s, bnd2_s, bnd3_s, bnd4_s, lit_n, neg1, chkI_n, chkZ_n, chkC_n, bI_B, chkB_0, chkB_1, bI_t, bI_f, clamp_n, nI_add, subn, remn2, nat_rem, divn, pk_mul, ifle_t, ifle_f, iflt_t, iflt_f, ifeq_t, ifeq_f, ifm_f, ifm_t, if_true, if_false, etk, l64_n, iflL_t, iflL_f])).trans ?_
        refine (jn1_c (a := (nI 3)) (fun k => by simp (disch := omega) only [nm, jn0, jn1, jn2, jn3, jn4, jn5, bnd1_s, bnd2_s, bnd3_s, bnd4_s, lit_n, neg1, chkI_n, chkZ_n, chkC_n, bI_B, chkB_0, chkB_1, bI_t, bI_f, clamp_n, nI_add, subn, remn2, nat_rem, divn, pk_mul, ifle_t, ifle_f, iflt_t, iflt_f, ifeq_t, ifeq_f, ifm_f, ifm_t, if_true, if_false])).trans ?_
        rw [ok36 hw, nm_c, hcl, hm2, ok36 hw]
        simp only [e7]
        rw [if_neg (show ¬ (nI 3) = (0 : Int32) by decide), if_neg (show ¬ (nI 3) = (1 : Int32) by decide), if_neg (show ¬ (nI 3) = (2 : Int32) by decide), if_pos (show (nI 3) = (3 : Int32) by decide)]
        rw [etk]
        rw [ok36 hw]
        refine (jn1_c (a := nI 0) (fun k => if_neg (by decide))).trans ?_
        rfl
      rw [hA, hB]
      exact LFS.l (l_house (k := 1) (lN 60284) (by decide) a7) ff
    · rw [V4] at etk
      have w0 : MX2_isWord (wL 0) (wB 0) xT = some (nI 0) := (iw 0 (by decide)).trans (by rw [hww 0 (by decide)]; rfl)
      have w1 : MX2_isWord (wL 1) (wB 1) xT = some (nI 0) := (iw 1 (by decide)).trans (by rw [hww 1 (by decide)]; rfl)
      have w2 : MX2_isWord (wL 2) (wB 2) xT = some (nI 0) := (iw 2 (by decide)).trans (by rw [hww 2 (by decide)]; rfl)
      have w3 : MX2_isWord (wL 3) (wB 3) xT = some (nI 0) := (iw 3 (by decide)).trans (by rw [hww 3 (by decide)]; rfl)
      have w4 : MX2_isWord (wL 4) (wB 4) xT = some (nI 1) := (iw 4 (by decide)).trans (by rw [hww 4 (by decide)]; rfl)
      have w5 : MX2_isWord (wL 5) (wB 5) xT = some (nI 0) := (iw 5 (by decide)).trans (by rw [hww 5 (by decide)]; rfl)
      have w6 : MX2_isWord (wL 6) (wB 6) xT = some (nI 0) := (iw 6 (by decide)).trans (by rw [hww 6 (by decide)]; rfl)
      have w7 : MX2_isWord (wL 7) (wB 7) xT = some (nI 0) := (iw 7 (by decide)).trans (by rw [hww 7 (by decide)]; rfl)
      have w8 : MX2_isWord (wL 8) (wB 8) xT = some (nI 0) := (iw 8 (by decide)).trans (by rw [hww 8 (by decide)]; rfl)
      have w9 : MX2_isWord (wL 9) (wB 9) xT = some (nI 0) := (iw 9 (by decide)).trans (by rw [hww 9 (by decide)]; rfl)
      have w10 : MX2_isWord (wL 10) (wB 10) xT = some (nI 0) := (iw 10 (by decide)).trans (by rw [hww 10 (by decide)]; rfl)
      have w11 : MX2_isWord (wL 11) (wB 11) xT = some (nI 0) := (iw 11 (by decide)).trans (by rw [hww 11 (by decide)]; rfl)
      have w12 : MX2_isWord (wL 12) (wB 12) xT = some (nI 0) := (iw 12 (by decide)).trans (by rw [hww 12 (by decide)]; rfl)
      obtain ⟨m2, hm2⟩ : ∃ m2, upA m1 7 (upd (m1 7) w (nI 4)) = m2 := ⟨_, rfl⟩
      have hcl : (nI w).toNatClampNeg = w := nI_clamp (by omega)
      have e7 : m2 7 w = nI 4 := by rw [← hm2, upA_s, pk_us]
      have a7 := at7 4
      have ff := f1 (nI 4)
      rw [hm2] at a7 ff
      have hA : MX2_readLine xT tT = bnd3 (MX2_readHouse xT tT (nI 2)) (fun r x t => chkB r (some (r, x, t))) := by
        unfold MX2_readLine MX2_kindHere
        simp (disch := omega) only [nm, jn0, jn1, jn2, jn3, jn4, jn5, bnd1_s, bnd2_s, bnd3_s, bnd4_s, lit_n, neg1, chkI_n, chkZ_n, chkC_n, bI_B, chkB_0, chkB_1, bI_t, bI_f, clamp_n, nI_add, subn, remn2, nat_rem, divn, pk_mul, ifle_t, ifle_f, iflt_t, iflt_f, ifeq_t, ifeq_f, ifm_f, ifm_t, if_true, if_false, w0, w1, w2, w3, w4, w5, w6, w7, w8, w9, w10, w11, w12]
      have hB : MX5_isLine mM tk (nI w) = bnd3 (MX5_isHouseLine m2 (lN 10506440) (nI w) (nI 0)) (fun r x t => chkB r (some (r, x, t))) := by
        unfold MX5_isLine
        rw [k1, bnd2_s]
        refine (jn1_c (a := (nI 4)) (fun k => by simp (disch := omega) only [nm, jn0, jn1, jn2, jn3, jn4, jn5, bnd1_s, bnd2_s, bnd3_s, bnd4_s, lit_n, neg1, chkI_n, chkZ_n, chkC_n, bI_B, chkB_0, chkB_1, bI_t, bI_f, clamp_n, nI_add, subn, remn2, nat_rem, divn, pk_mul, ifle_t, ifle_f, iflt_t, iflt_f, ifeq_t, ifeq_f, ifm_f, ifm_t, if_true, if_false, etk, l64_n, iflL_t, iflL_f])).trans ?_
        refine (jn1_c (a := mI) (fun k => by simp (disch := omega) only [nm, jn0, jn1, jn2, jn3, jn4, jn5, bnd1_s, bnd2_s, bnd3_s, bnd4_s, lit_n, neg1, chkI_n, chkZ_n, chkC_n, bI_B, chkB_0, chkB_1, bI_t, bI_f, clamp_n, nI_add, subn, remn2, nat_rem, divn, pk_mul, ifle_t, ifle_f, iflt_t, iflt_f, ifeq_t, ifeq_f, ifm_f, ifm_t, if_true, if_false, etk, l64_n, iflL_t, iflL_f])).trans ?_
        refine (jn1_c (a := (nI 4)) (fun k => by simp (disch := omega) only [nm, jn0, jn1, jn2, jn3, jn4, jn5, bnd1_s, bnd2_s, bnd3_s, bnd4_s, lit_n, neg1, chkI_n, chkZ_n, chkC_n, bI_B, chkB_0, chkB_1, bI_t, bI_f, clamp_n, nI_add, subn, remn2, nat_rem, divn, pk_mul, ifle_t, ifle_f, iflt_t, iflt_f, ifeq_t, ifeq_f, ifm_f, ifm_t, if_true, if_false])).trans ?_
        rw [ok36 hw, nm_c, hcl, hm2, ok36 hw]
        simp only [e7]
        rw [if_neg (show ¬ (nI 4) = (0 : Int32) by decide), if_neg (show ¬ (nI 4) = (1 : Int32) by decide), if_neg (show ¬ (nI 4) = (2 : Int32) by decide), if_neg (show ¬ (nI 4) = (3 : Int32) by decide), if_pos (show (nI 4) = (4 : Int32) by decide)]
        rw [etk]
        rw [ok36 hw]
        refine (jn1_c (a := nI 0) (fun k => if_neg (by decide))).trans ?_
        rfl
      rw [hA, hB]
      exact LFS.l (l_house (k := 2) (lN 10506440) (by decide) a7) ff
    · rw [V5] at etk
      have w0 : MX2_isWord (wL 0) (wB 0) xT = some (nI 0) := (iw 0 (by decide)).trans (by rw [hww 0 (by decide)]; rfl)
      have w1 : MX2_isWord (wL 1) (wB 1) xT = some (nI 0) := (iw 1 (by decide)).trans (by rw [hww 1 (by decide)]; rfl)
      have w2 : MX2_isWord (wL 2) (wB 2) xT = some (nI 0) := (iw 2 (by decide)).trans (by rw [hww 2 (by decide)]; rfl)
      have w3 : MX2_isWord (wL 3) (wB 3) xT = some (nI 0) := (iw 3 (by decide)).trans (by rw [hww 3 (by decide)]; rfl)
      have w4 : MX2_isWord (wL 4) (wB 4) xT = some (nI 0) := (iw 4 (by decide)).trans (by rw [hww 4 (by decide)]; rfl)
      have w5 : MX2_isWord (wL 5) (wB 5) xT = some (nI 1) := (iw 5 (by decide)).trans (by rw [hww 5 (by decide)]; rfl)
      have w6 : MX2_isWord (wL 6) (wB 6) xT = some (nI 0) := (iw 6 (by decide)).trans (by rw [hww 6 (by decide)]; rfl)
      have w7 : MX2_isWord (wL 7) (wB 7) xT = some (nI 0) := (iw 7 (by decide)).trans (by rw [hww 7 (by decide)]; rfl)
      have w8 : MX2_isWord (wL 8) (wB 8) xT = some (nI 0) := (iw 8 (by decide)).trans (by rw [hww 8 (by decide)]; rfl)
      have w9 : MX2_isWord (wL 9) (wB 9) xT = some (nI 0) := (iw 9 (by decide)).trans (by rw [hww 9 (by decide)]; rfl)
      have w10 : MX2_isWord (wL 10) (wB 10) xT = some (nI 0) := (iw 10 (by decide)).trans (by rw [hww 10 (by decide)]; rfl)
      have w11 : MX2_isWord (wL 11) (wB 11) xT = some (nI 0) := (iw 11 (by decide)).trans (by rw [hww 11 (by decide)]; rfl)
      have w12 : MX2_isWord (wL 12) (wB 12) xT = some (nI 0) := (iw 12 (by decide)).trans (by rw [hww 12 (by decide)]; rfl)
      obtain ⟨m2, hm2⟩ : ∃ m2, upA m1 7 (upd (m1 7) w (nI 5)) = m2 := ⟨_, rfl⟩
      have hcl : (nI w).toNatClampNeg = w := nI_clamp (by omega)
      have e7 : m2 7 w = nI 5 := by rw [← hm2, upA_s, pk_us]
      have a7 := at7 5
      have ff := f1 (nI 5)
      rw [hm2] at a7 ff
      have hA : MX2_readLine xT tT = bnd3 (MX2_readHouse xT tT (nI 3)) (fun r x t => chkB r (some (r, x, t))) := by
        unfold MX2_readLine MX2_kindHere
        simp (disch := omega) only [nm, jn0, jn1, jn2, jn3, jn4, jn5, bnd1_s, bnd2_s, bnd3_s, bnd4_s, lit_n, neg1, chkI_n, chkZ_n, chkC_n, bI_B, chkB_0, chkB_1, bI_t, bI_f, clamp_n, nI_add, subn, remn2, nat_rem, divn, pk_mul, ifle_t, ifle_f, iflt_t, iflt_f, ifeq_t, ifeq_f, ifm_f, ifm_t, if_true, if_false, w0, w1, w2, w3, w4, w5, w6, w7, w8, w9, w10, w11, w12]
      have hB : MX5_isLine mM tk (nI w) = bnd3 (MX5_isHouseLine m2 (lN 459383) (nI w) (nI 1)) (fun r x t => chkB r (some (r, x, t))) := by
        unfold MX5_isLine
        rw [k1, bnd2_s]
        refine (jn1_c (a := (nI 5)) (fun k => by simp (disch := omega) only [nm, jn0, jn1, jn2, jn3, jn4, jn5, bnd1_s, bnd2_s, bnd3_s, bnd4_s, lit_n, neg1, chkI_n, chkZ_n, chkC_n, bI_B, chkB_0, chkB_1, bI_t, bI_f, clamp_n, nI_add, subn, remn2, nat_rem, divn, pk_mul, ifle_t, ifle_f, iflt_t, iflt_f, ifeq_t, ifeq_f, ifm_f, ifm_t, if_true, if_false, etk, l64_n, iflL_t, iflL_f])).trans ?_
        refine (jn1_c (a := mI) (fun k => by simp (disch := omega) only [nm, jn0, jn1, jn2, jn3, jn4, jn5, bnd1_s, bnd2_s, bnd3_s, bnd4_s, lit_n, neg1, chkI_n, chkZ_n, chkC_n, bI_B, chkB_0, chkB_1, bI_t, bI_f, clamp_n, nI_add, subn, remn2, nat_rem, divn, pk_mul, ifle_t, ifle_f, iflt_t, iflt_f, ifeq_t, ifeq_f, ifm_f, ifm_t, if_true, if_false, etk, l64_n, iflL_t, iflL_f])).trans ?_
        refine (jn1_c (a := (nI 5)) (fun k => by simp (disch := omega) only [nm, jn0, jn1, jn2, jn3, jn4, jn5, bnd1_s, bnd2_s, bnd3_s, bnd4_s, lit_n, neg1, chkI_n, chkZ_n, chkC_n, bI_B, chkB_0, chkB_1, bI_t, bI_f, clamp_n, nI_add, subn, remn2, nat_rem, divn, pk_mul, ifle_t, ifle_f, iflt_t, iflt_f, ifeq_t, ifeq_f, ifm_f, ifm_t, if_true, if_false])).trans ?_
        rw [ok36 hw, nm_c, hcl, hm2, ok36 hw]
        simp only [e7]
        rw [if_neg (show ¬ (nI 5) = (0 : Int32) by decide), if_neg (show ¬ (nI 5) = (1 : Int32) by decide), if_neg (show ¬ (nI 5) = (2 : Int32) by decide), if_neg (show ¬ (nI 5) = (3 : Int32) by decide), if_neg (show ¬ (nI 5) = (4 : Int32) by decide), if_pos (show (nI 5) = (5 : Int32) by decide)]
        rw [etk]
        rw [ok36 hw]
        refine (jn1_c (a := nI 1) (fun k => if_pos (by decide))).trans ?_
        rfl
      rw [hA, hB]
      exact LFS.l (l_house (k := 3) (lN 459383) (by decide) a7) ff
    · rw [V6] at etk
      have w0 : MX2_isWord (wL 0) (wB 0) xT = some (nI 0) := (iw 0 (by decide)).trans (by rw [hww 0 (by decide)]; rfl)
      have w1 : MX2_isWord (wL 1) (wB 1) xT = some (nI 0) := (iw 1 (by decide)).trans (by rw [hww 1 (by decide)]; rfl)
      have w2 : MX2_isWord (wL 2) (wB 2) xT = some (nI 0) := (iw 2 (by decide)).trans (by rw [hww 2 (by decide)]; rfl)
      have w3 : MX2_isWord (wL 3) (wB 3) xT = some (nI 0) := (iw 3 (by decide)).trans (by rw [hww 3 (by decide)]; rfl)
      have w4 : MX2_isWord (wL 4) (wB 4) xT = some (nI 0) := (iw 4 (by decide)).trans (by rw [hww 4 (by decide)]; rfl)
      have w5 : MX2_isWord (wL 5) (wB 5) xT = some (nI 0) := (iw 5 (by decide)).trans (by rw [hww 5 (by decide)]; rfl)
      have w6 : MX2_isWord (wL 6) (wB 6) xT = some (nI 1) := (iw 6 (by decide)).trans (by rw [hww 6 (by decide)]; rfl)
      have w7 : MX2_isWord (wL 7) (wB 7) xT = some (nI 0) := (iw 7 (by decide)).trans (by rw [hww 7 (by decide)]; rfl)
      have w8 : MX2_isWord (wL 8) (wB 8) xT = some (nI 0) := (iw 8 (by decide)).trans (by rw [hww 8 (by decide)]; rfl)
      have w9 : MX2_isWord (wL 9) (wB 9) xT = some (nI 0) := (iw 9 (by decide)).trans (by rw [hww 9 (by decide)]; rfl)
      have w10 : MX2_isWord (wL 10) (wB 10) xT = some (nI 0) := (iw 10 (by decide)).trans (by rw [hww 10 (by decide)]; rfl)
      have w11 : MX2_isWord (wL 11) (wB 11) xT = some (nI 0) := (iw 11 (by decide)).trans (by rw [hww 11 (by decide)]; rfl)
      have w12 : MX2_isWord (wL 12) (wB 12) xT = some (nI 0) := (iw 12 (by decide)).trans (by rw [hww 12 (by decide)]; rfl)
      obtain ⟨m2, hm2⟩ : ∃ m2, upA m1 7 (upd (m1 7) w (nI 6)) = m2 := ⟨_, rfl⟩
      have hcl : (nI w).toNatClampNeg = w := nI_clamp (by omega)
      have e7 : m2 7 w = nI 6 := by rw [← hm2, upA_s, pk_us]
      have a7 := at7 6
      have ff := f1 (nI 6)
      rw [hm2] at a7 ff
      have hA : MX2_readLine xT tT = bnd3 (MX2_readPath xT tT) (fun r x t => chkB r (some (r, x, t))) := by
        unfold MX2_readLine MX2_kindHere
        simp (disch := omega) only [nm, jn0, jn1, jn2, jn3, jn4, jn5, bnd1_s, bnd2_s, bnd3_s, bnd4_s, lit_n, neg1, chkI_n, chkZ_n, chkC_n, bI_B, chkB_0, chkB_1, bI_t, bI_f, clamp_n, nI_add, subn, remn2, nat_rem, divn, pk_mul, ifle_t, ifle_f, iflt_t, iflt_f, ifeq_t, ifeq_f, ifm_f, ifm_t, if_true, if_false, w0, w1, w2, w3, w4, w5, w6, w7, w8, w9, w10, w11, w12]
      have hB : MX5_isLine mM tk (nI w) = bnd3 (MX5_isPath m2 (lN 316205) (nI w)) (fun r x t => chkB r (some (r, x, t))) := by
        unfold MX5_isLine
        rw [k1, bnd2_s]
        refine (jn1_c (a := (nI 6)) (fun k => by simp (disch := omega) only [nm, jn0, jn1, jn2, jn3, jn4, jn5, bnd1_s, bnd2_s, bnd3_s, bnd4_s, lit_n, neg1, chkI_n, chkZ_n, chkC_n, bI_B, chkB_0, chkB_1, bI_t, bI_f, clamp_n, nI_add, subn, remn2, nat_rem, divn, pk_mul, ifle_t, ifle_f, iflt_t, iflt_f, ifeq_t, ifeq_f, ifm_f, ifm_t, if_true, if_false, etk, l64_n, iflL_t, iflL_f])).trans ?_
        refine (jn1_c (a := mI) (fun k => by simp (disch := omega) only [nm, jn0, jn1, jn2, jn3, jn4, jn5, bnd1_s, bnd2_s, bnd3_s, bnd4_s, lit_n, neg1, chkI_n, chkZ_n, chkC_n, bI_B, chkB_0, chkB_1, bI_t, bI_f, clamp_n, nI_add, subn, remn2, nat_rem, divn, pk_mul, ifle_t, ifle_f, iflt_t, iflt_f, ifeq_t, ifeq_f, ifm_f, ifm_t, if_true, if_false, etk, l64_n, iflL_t, iflL_f])).trans ?_
        refine (jn1_c (a := (nI 6)) (fun k => by simp (disch := omega) only [nm, jn0, jn1, jn2, jn3, jn4, jn5, bnd1_s, bnd2_s, bnd3_s, bnd4_s, lit_n, neg1, chkI_n, chkZ_n, chkC_n, bI_B, chkB_0, chkB_1, bI_t, bI_f, clamp_n, nI_add, subn, remn2, nat_rem, divn, pk_mul, ifle_t, ifle_f, iflt_t, iflt_f, ifeq_t, ifeq_f, ifm_f, ifm_t, if_true, if_false])).trans ?_
        rw [ok36 hw, nm_c, hcl, hm2, ok36 hw]
        simp only [e7]
        rw [if_neg (show ¬ (nI 6) = (0 : Int32) by decide), if_neg (show ¬ (nI 6) = (1 : Int32) by decide), if_neg (show ¬ (nI 6) = (2 : Int32) by decide), if_neg (show ¬ (nI 6) = (3 : Int32) by decide), if_neg (show ¬ (nI 6) = (4 : Int32) by decide), if_neg (show ¬ (nI 6) = (5 : Int32) by decide), if_pos (show (nI 6) = (6 : Int32) by decide)]
        rw [etk]
      rw [hA, hB]
      exact LFS.l (l_path (lN 316205) a7) ff
    · rw [V7] at etk
      have w0 : MX2_isWord (wL 0) (wB 0) xT = some (nI 0) := (iw 0 (by decide)).trans (by rw [hww 0 (by decide)]; rfl)
      have w1 : MX2_isWord (wL 1) (wB 1) xT = some (nI 0) := (iw 1 (by decide)).trans (by rw [hww 1 (by decide)]; rfl)
      have w2 : MX2_isWord (wL 2) (wB 2) xT = some (nI 0) := (iw 2 (by decide)).trans (by rw [hww 2 (by decide)]; rfl)
      have w3 : MX2_isWord (wL 3) (wB 3) xT = some (nI 0) := (iw 3 (by decide)).trans (by rw [hww 3 (by decide)]; rfl)
      have w4 : MX2_isWord (wL 4) (wB 4) xT = some (nI 0) := (iw 4 (by decide)).trans (by rw [hww 4 (by decide)]; rfl)
      have w5 : MX2_isWord (wL 5) (wB 5) xT = some (nI 0) := (iw 5 (by decide)).trans (by rw [hww 5 (by decide)]; rfl)
      have w6 : MX2_isWord (wL 6) (wB 6) xT = some (nI 0) := (iw 6 (by decide)).trans (by rw [hww 6 (by decide)]; rfl)
      have w7 : MX2_isWord (wL 7) (wB 7) xT = some (nI 1) := (iw 7 (by decide)).trans (by rw [hww 7 (by decide)]; rfl)
      have w8 : MX2_isWord (wL 8) (wB 8) xT = some (nI 0) := (iw 8 (by decide)).trans (by rw [hww 8 (by decide)]; rfl)
      have w9 : MX2_isWord (wL 9) (wB 9) xT = some (nI 0) := (iw 9 (by decide)).trans (by rw [hww 9 (by decide)]; rfl)
      have w10 : MX2_isWord (wL 10) (wB 10) xT = some (nI 0) := (iw 10 (by decide)).trans (by rw [hww 10 (by decide)]; rfl)
      have w11 : MX2_isWord (wL 11) (wB 11) xT = some (nI 0) := (iw 11 (by decide)).trans (by rw [hww 11 (by decide)]; rfl)
      have w12 : MX2_isWord (wL 12) (wB 12) xT = some (nI 0) := (iw 12 (by decide)).trans (by rw [hww 12 (by decide)]; rfl)
      obtain ⟨m2, hm2⟩ : ∃ m2, upA m1 7 (upd (m1 7) w (nI 7)) = m2 := ⟨_, rfl⟩
      have hcl : (nI w).toNatClampNeg = w := nI_clamp (by omega)
      have e7 : m2 7 w = nI 7 := by rw [← hm2, upA_s, pk_us]
      have a7 := at7 7
      have ff := f1 (nI 7)
      rw [hm2] at a7 ff
      have hA : MX2_readLine xT tT = bnd3 (MX2_readFeud xT tT) (fun r x t => chkB r (some (r, x, t))) := by
        unfold MX2_readLine MX2_kindHere
        simp (disch := omega) only [nm, jn0, jn1, jn2, jn3, jn4, jn5, bnd1_s, bnd2_s, bnd3_s, bnd4_s, lit_n, neg1, chkI_n, chkZ_n, chkC_n, bI_B, chkB_0, chkB_1, bI_t, bI_f, clamp_n, nI_add, subn, remn2, nat_rem, divn, pk_mul, ifle_t, ifle_f, iflt_t, iflt_f, ifeq_t, ifeq_f, ifm_f, ifm_t, if_true, if_false, w0, w1, w2, w3, w4, w5, w6, w7, w8, w9, w10, w11, w12]
      have hB : MX5_isLine mM tk (nI w) = bnd3 (MX5_isFeud m2 (lN 122314) (nI w)) (fun r x t => chkB r (some (r, x, t))) := by
        unfold MX5_isLine
        rw [k1, bnd2_s]
        refine (jn1_c (a := mI) (fun k => by simp (disch := omega) only [nm, jn0, jn1, jn2, jn3, jn4, jn5, bnd1_s, bnd2_s, bnd3_s, bnd4_s, lit_n, neg1, chkI_n, chkZ_n, chkC_n, bI_B, chkB_0, chkB_1, bI_t, bI_f, clamp_n, nI_add, subn, remn2, nat_rem, divn, pk_mul, ifle_t, ifle_f, iflt_t, iflt_f, ifeq_t, ifeq_f, ifm_f, ifm_t, if_true, if_false, etk, l64_n, iflL_t, iflL_f])).trans ?_
        refine (jn1_c (a := (nI 7)) (fun k => by simp (disch := omega) only [nm, jn0, jn1, jn2, jn3, jn4, jn5, bnd1_s, bnd2_s, bnd3_s, bnd4_s, lit_n, neg1, chkI_n, chkZ_n, chkC_n, bI_B, chkB_0, chkB_1, bI_t, bI_f, clamp_n, nI_add, subn, remn2, nat_rem, divn, pk_mul, ifle_t, ifle_f, iflt_t, iflt_f, ifeq_t, ifeq_f, ifm_f, ifm_t, if_true, if_false, etk, l64_n, iflL_t, iflL_f])).trans ?_
        refine (jn1_c (a := (nI 7)) (fun k => by simp (disch := omega) only [nm, jn0, jn1, jn2, jn3, jn4, jn5, bnd1_s, bnd2_s, bnd3_s, bnd4_s, lit_n, neg1, chkI_n, chkZ_n, chkC_n, bI_B, chkB_0, chkB_1, bI_t, bI_f, clamp_n, nI_add, subn, remn2, nat_rem, divn, pk_mul, ifle_t, ifle_f, iflt_t, iflt_f, ifeq_t, ifeq_f, ifm_f, ifm_t, if_true, if_false])).trans ?_
        rw [ok36 hw, nm_c, hcl, hm2, ok36 hw]
        simp only [e7]
        rw [if_neg (show ¬ (nI 7) = (0 : Int32) by decide), if_neg (show ¬ (nI 7) = (1 : Int32) by decide), if_neg (show ¬ (nI 7) = (2 : Int32) by decide), if_neg (show ¬ (nI 7) = (3 : Int32) by decide), if_neg (show ¬ (nI 7) = (4 : Int32) by decide), if_neg (show ¬ (nI 7) = (5 : Int32) by decide), if_neg (show ¬ (nI 7) = (6 : Int32) by decide), if_pos (show (nI 7) = (7 : Int32) by decide)]
        rw [etk]
      rw [hA, hB]
      exact LFS.l (l_feud (lN 122314) a7) ff
    · rw [V8] at etk
      have w0 : MX2_isWord (wL 0) (wB 0) xT = some (nI 0) := (iw 0 (by decide)).trans (by rw [hww 0 (by decide)]; rfl)
      have w1 : MX2_isWord (wL 1) (wB 1) xT = some (nI 0) := (iw 1 (by decide)).trans (by rw [hww 1 (by decide)]; rfl)
      have w2 : MX2_isWord (wL 2) (wB 2) xT = some (nI 0) := (iw 2 (by decide)).trans (by rw [hww 2 (by decide)]; rfl)
      have w3 : MX2_isWord (wL 3) (wB 3) xT = some (nI 0) := (iw 3 (by decide)).trans (by rw [hww 3 (by decide)]; rfl)
      have w4 : MX2_isWord (wL 4) (wB 4) xT = some (nI 0) := (iw 4 (by decide)).trans (by rw [hww 4 (by decide)]; rfl)
      have w5 : MX2_isWord (wL 5) (wB 5) xT = some (nI 0) := (iw 5 (by decide)).trans (by rw [hww 5 (by decide)]; rfl)
      have w6 : MX2_isWord (wL 6) (wB 6) xT = some (nI 0) := (iw 6 (by decide)).trans (by rw [hww 6 (by decide)]; rfl)
      have w7 : MX2_isWord (wL 7) (wB 7) xT = some (nI 0) := (iw 7 (by decide)).trans (by rw [hww 7 (by decide)]; rfl)
      have w8 : MX2_isWord (wL 8) (wB 8) xT = some (nI 1) := (iw 8 (by decide)).trans (by rw [hww 8 (by decide)]; rfl)
      have w9 : MX2_isWord (wL 9) (wB 9) xT = some (nI 0) := (iw 9 (by decide)).trans (by rw [hww 9 (by decide)]; rfl)
      have w10 : MX2_isWord (wL 10) (wB 10) xT = some (nI 0) := (iw 10 (by decide)).trans (by rw [hww 10 (by decide)]; rfl)
      have w11 : MX2_isWord (wL 11) (wB 11) xT = some (nI 0) := (iw 11 (by decide)).trans (by rw [hww 11 (by decide)]; rfl)
      have w12 : MX2_isWord (wL 12) (wB 12) xT = some (nI 0) := (iw 12 (by decide)).trans (by rw [hww 12 (by decide)]; rfl)
      obtain ⟨m2, hm2⟩ : ∃ m2, upA m1 7 (upd (m1 7) w (nI 11)) = m2 := ⟨_, rfl⟩
      have hcl : (nI w).toNatClampNeg = w := nI_clamp (by omega)
      have e7 : m2 7 w = nI 11 := by rw [← hm2, upA_s, pk_us]
      have a7 := at7 11
      have ff := f1 (nI 11)
      rw [hm2] at a7 ff
      have hA : MX2_readLine xT tT = bnd3 (MX2_readLot xT tT) (fun r x t => chkB r (some (r, x, t))) := by
        unfold MX2_readLine MX2_kindHere
        simp (disch := omega) only [nm, jn0, jn1, jn2, jn3, jn4, jn5, bnd1_s, bnd2_s, bnd3_s, bnd4_s, lit_n, neg1, chkI_n, chkZ_n, chkC_n, bI_B, chkB_0, chkB_1, bI_t, bI_f, clamp_n, nI_add, subn, remn2, nat_rem, divn, pk_mul, ifle_t, ifle_f, iflt_t, iflt_f, ifeq_t, ifeq_f, ifm_f, ifm_t, if_true, if_false, w0, w1, w2, w3, w4, w5, w6, w7, w8, w9, w10, w11, w12]
      have hB : MX5_isLine mM tk (nI w) = bnd3 (MX5_isNumber m2 (lN 9173) (nI w + (1 : Int32)) (1 : Int32) (9999 : Int32)) (fun r x t => chkB r (some (r, x, t))) := by
        unfold MX5_isLine
        rw [k1, bnd2_s]
        refine (jn1_c (a := mI) (fun k => by simp (disch := omega) only [nm, jn0, jn1, jn2, jn3, jn4, jn5, bnd1_s, bnd2_s, bnd3_s, bnd4_s, lit_n, neg1, chkI_n, chkZ_n, chkC_n, bI_B, chkB_0, chkB_1, bI_t, bI_f, clamp_n, nI_add, subn, remn2, nat_rem, divn, pk_mul, ifle_t, ifle_f, iflt_t, iflt_f, ifeq_t, ifeq_f, ifm_f, ifm_t, if_true, if_false, etk, l64_n, iflL_t, iflL_f])).trans ?_
        refine (jn1_c (a := (nI 11)) (fun k => by simp (disch := omega) only [nm, jn0, jn1, jn2, jn3, jn4, jn5, bnd1_s, bnd2_s, bnd3_s, bnd4_s, lit_n, neg1, chkI_n, chkZ_n, chkC_n, bI_B, chkB_0, chkB_1, bI_t, bI_f, clamp_n, nI_add, subn, remn2, nat_rem, divn, pk_mul, ifle_t, ifle_f, iflt_t, iflt_f, ifeq_t, ifeq_f, ifm_f, ifm_t, if_true, if_false, etk, l64_n, iflL_t, iflL_f])).trans ?_
        refine (jn1_c (a := (nI 11)) (fun k => by simp (disch := omega) only [nm, jn0, jn1, jn2, jn3, jn4, jn5, bnd1_s, bnd2_s, bnd3_s, bnd4_s, lit_n, neg1, chkI_n, chkZ_n, chkC_n, bI_B, chkB_0, chkB_1, bI_t, bI_f, clamp_n, nI_add, subn, remn2, nat_rem, divn, pk_mul, ifle_t, ifle_f, iflt_t, iflt_f, ifeq_t, ifeq_f, ifm_f, ifm_t, if_true, if_false])).trans ?_
        rw [ok36 hw, nm_c, hcl, hm2, ok36 hw]
        simp only [e7]
        rw [if_neg (show ¬ (nI 11) = (0 : Int32) by decide), if_neg (show ¬ (nI 11) = (1 : Int32) by decide), if_neg (show ¬ (nI 11) = (2 : Int32) by decide), if_neg (show ¬ (nI 11) = (3 : Int32) by decide), if_neg (show ¬ (nI 11) = (4 : Int32) by decide), if_neg (show ¬ (nI 11) = (5 : Int32) by decide), if_neg (show ¬ (nI 11) = (6 : Int32) by decide), if_neg (show ¬ (nI 11) = (7 : Int32) by decide), if_neg (show ¬ (nI 11) = (8 : Int32) by decide), if_neg (show ¬ (nI 11) = (9 : Int32) by decide), if_neg (show ¬ (nI 11) = (10 : Int32) by decide), if_pos (show (nI 11) = (11 : Int32) by decide)]
        rw [etk]
      rw [hA, hB]
      exact LFS.l (l_lot (lN 9173) a7) ff
    · rw [V9] at etk
      have w0 : MX2_isWord (wL 0) (wB 0) xT = some (nI 0) := (iw 0 (by decide)).trans (by rw [hww 0 (by decide)]; rfl)
      have w1 : MX2_isWord (wL 1) (wB 1) xT = some (nI 0) := (iw 1 (by decide)).trans (by rw [hww 1 (by decide)]; rfl)
      have w2 : MX2_isWord (wL 2) (wB 2) xT = some (nI 0) := (iw 2 (by decide)).trans (by rw [hww 2 (by decide)]; rfl)
      have w3 : MX2_isWord (wL 3) (wB 3) xT = some (nI 0) := (iw 3 (by decide)).trans (by rw [hww 3 (by decide)]; rfl)
      have w4 : MX2_isWord (wL 4) (wB 4) xT = some (nI 0) := (iw 4 (by decide)).trans (by rw [hww 4 (by decide)]; rfl)
      have w5 : MX2_isWord (wL 5) (wB 5) xT = some (nI 0) := (iw 5 (by decide)).trans (by rw [hww 5 (by decide)]; rfl)
      have w6 : MX2_isWord (wL 6) (wB 6) xT = some (nI 0) := (iw 6 (by decide)).trans (by rw [hww 6 (by decide)]; rfl)
      have w7 : MX2_isWord (wL 7) (wB 7) xT = some (nI 0) := (iw 7 (by decide)).trans (by rw [hww 7 (by decide)]; rfl)
      have w8 : MX2_isWord (wL 8) (wB 8) xT = some (nI 0) := (iw 8 (by decide)).trans (by rw [hww 8 (by decide)]; rfl)
      have w9 : MX2_isWord (wL 9) (wB 9) xT = some (nI 1) := (iw 9 (by decide)).trans (by rw [hww 9 (by decide)]; rfl)
      have w10 : MX2_isWord (wL 10) (wB 10) xT = some (nI 0) := (iw 10 (by decide)).trans (by rw [hww 10 (by decide)]; rfl)
      have w11 : MX2_isWord (wL 11) (wB 11) xT = some (nI 0) := (iw 11 (by decide)).trans (by rw [hww 11 (by decide)]; rfl)
      have w12 : MX2_isWord (wL 12) (wB 12) xT = some (nI 0) := (iw 12 (by decide)).trans (by rw [hww 12 (by decide)]; rfl)
      obtain ⟨m2, hm2⟩ : ∃ m2, upA m1 7 (upd (m1 7) w (nI 12)) = m2 := ⟨_, rfl⟩
      have hcl : (nI w).toNatClampNeg = w := nI_clamp (by omega)
      have e7 : m2 7 w = nI 12 := by rw [← hm2, upA_s, pk_us]
      have a7 := at7 12
      have ff := f1 (nI 12)
      rw [hm2] at a7 ff
      obtain ⟨t9, q1, q2⟩ := p_remove hT
      have hA : MX2_readLine xT tT = some (nI 1, xT, t9) := by
        unfold MX2_readLine MX2_kindHere
        simp (disch := omega) only [nm, jn0, jn1, jn2, jn3, jn4, jn5, bnd1_s, bnd2_s, bnd3_s, bnd4_s, lit_n, neg1, chkI_n, chkZ_n, chkC_n, bI_B, chkB_0, chkB_1, bI_t, bI_f, clamp_n, nI_add, subn, remn2, nat_rem, divn, pk_mul, ifle_t, ifle_f, iflt_t, iflt_f, ifeq_t, ifeq_f, ifm_f, ifm_t, if_true, if_false, w0, w1, w2, w3, w4, w5, w6, w7, w8, w9, w10, w11, w12, q1]
      have hB : MX5_isLine mM tk (nI w) = some (nI 1, up2 (up2 (up2 m2 0 21 (nI 0)) 0 22 (nI 0)) 0 24 (nI 0), (lN 1834209)) := by
        unfold MX5_isLine
        rw [k1, bnd2_s]
        refine (jn1_c (a := mI) (fun k => by simp (disch := omega) only [nm, jn0, jn1, jn2, jn3, jn4, jn5, bnd1_s, bnd2_s, bnd3_s, bnd4_s, lit_n, neg1, chkI_n, chkZ_n, chkC_n, bI_B, chkB_0, chkB_1, bI_t, bI_f, clamp_n, nI_add, subn, remn2, nat_rem, divn, pk_mul, ifle_t, ifle_f, iflt_t, iflt_f, ifeq_t, ifeq_f, ifm_f, ifm_t, if_true, if_false, etk, l64_n, iflL_t, iflL_f])).trans ?_
        refine (jn1_c (a := (nI 12)) (fun k => by simp (disch := omega) only [nm, jn0, jn1, jn2, jn3, jn4, jn5, bnd1_s, bnd2_s, bnd3_s, bnd4_s, lit_n, neg1, chkI_n, chkZ_n, chkC_n, bI_B, chkB_0, chkB_1, bI_t, bI_f, clamp_n, nI_add, subn, remn2, nat_rem, divn, pk_mul, ifle_t, ifle_f, iflt_t, iflt_f, ifeq_t, ifeq_f, ifm_f, ifm_t, if_true, if_false, etk, l64_n, iflL_t, iflL_f])).trans ?_
        refine (jn1_c (a := (nI 12)) (fun k => by simp (disch := omega) only [nm, jn0, jn1, jn2, jn3, jn4, jn5, bnd1_s, bnd2_s, bnd3_s, bnd4_s, lit_n, neg1, chkI_n, chkZ_n, chkC_n, bI_B, chkB_0, chkB_1, bI_t, bI_f, clamp_n, nI_add, subn, remn2, nat_rem, divn, pk_mul, ifle_t, ifle_f, iflt_t, iflt_f, ifeq_t, ifeq_f, ifm_f, ifm_t, if_true, if_false])).trans ?_
        rw [ok36 hw, nm_c, hcl, hm2, ok36 hw]
        simp only [e7]
        rw [if_neg (show ¬ (nI 12) = (0 : Int32) by decide), if_neg (show ¬ (nI 12) = (1 : Int32) by decide), if_neg (show ¬ (nI 12) = (2 : Int32) by decide), if_neg (show ¬ (nI 12) = (3 : Int32) by decide), if_neg (show ¬ (nI 12) = (4 : Int32) by decide), if_neg (show ¬ (nI 12) = (5 : Int32) by decide), if_neg (show ¬ (nI 12) = (6 : Int32) by decide), if_neg (show ¬ (nI 12) = (7 : Int32) by decide), if_neg (show ¬ (nI 12) = (8 : Int32) by decide), if_neg (show ¬ (nI 12) = (9 : Int32) by decide), if_neg (show ¬ (nI 12) = (10 : Int32) by decide), if_neg (show ¬ (nI 12) = (11 : Int32) by decide), if_pos (show (nI 12) = (12 : Int32) by decide)]
        rw [etk]
        rfl
      rw [hA, hB]
      obtain ⟨z1, z2, z3, z4, z5, z6, z7, z8, z9, z10, z11⟩ := a7
      right
      refine ⟨12, xT, t9, _, _, tE L Bt b, 0, 0, rfl, rfl, hX, he1.2, MT_up (MT_up (MT_up z7 (by decide)) (by decide)) (by decide), q2, IT_rmv hI, ?_, ?_, ⟨?_, fun z => by omega, fun z => by omega⟩, ff.trans ((fPs_up (by decide) (by decide) (by decide) (by decide)).trans ((fPs_up (by decide) (by decide) (by decide) (by decide)).trans (fPs_up (by decide) (by decide) (by decide) (by decide))))⟩
      · obtain ⟨y1, y2, y3, y4, y5⟩ := z9
        show CN _ (rmv T)
        refine ⟨?_, ?_, ?_, ?_, ?_⟩
        · simp (disch := omega) only [up2_s, up2_r, up2_n, upA_s, upA_r, pk_us, pk_un, cpy_n]; rw [y1]; simp [rmv, tU]
        · simp (disch := omega) only [up2_s, up2_r, up2_n, upA_s, upA_r, pk_us, pk_un, cpy_n]; simp [rmv, tU]
        · simp (disch := omega) only [up2_s, up2_r, up2_n, upA_s, upA_r, pk_us, pk_un, cpy_n]; simp [rmv, tU, ocN]
        · simp (disch := omega) only [up2_s, up2_r, up2_n, upA_s, upA_r, pk_us, pk_un, cpy_n]; rw [y4]; simp [rmv, tU]
        · simp (disch := omega) only [up2_s, up2_r, up2_n, upA_s, upA_r, pk_us, pk_un, cpy_n]; simp [rmv, tU]
      · unfold okA; omega
      · simp (disch := omega) only [up2_s, up2_r, up2_n, upA_s, upA_r, pk_us, pk_un, cpy_n]; exact z10
    · rw [V10] at etk
      have w0 : MX2_isWord (wL 0) (wB 0) xT = some (nI 0) := (iw 0 (by decide)).trans (by rw [hww 0 (by decide)]; rfl)
      have w1 : MX2_isWord (wL 1) (wB 1) xT = some (nI 0) := (iw 1 (by decide)).trans (by rw [hww 1 (by decide)]; rfl)
      have w2 : MX2_isWord (wL 2) (wB 2) xT = some (nI 0) := (iw 2 (by decide)).trans (by rw [hww 2 (by decide)]; rfl)
      have w3 : MX2_isWord (wL 3) (wB 3) xT = some (nI 0) := (iw 3 (by decide)).trans (by rw [hww 3 (by decide)]; rfl)
      have w4 : MX2_isWord (wL 4) (wB 4) xT = some (nI 0) := (iw 4 (by decide)).trans (by rw [hww 4 (by decide)]; rfl)
      have w5 : MX2_isWord (wL 5) (wB 5) xT = some (nI 0) := (iw 5 (by decide)).trans (by rw [hww 5 (by decide)]; rfl)
      have w6 : MX2_isWord (wL 6) (wB 6) xT = some (nI 0) := (iw 6 (by decide)).trans (by rw [hww 6 (by decide)]; rfl)
      have w7 : MX2_isWord (wL 7) (wB 7) xT = some (nI 0) := (iw 7 (by decide)).trans (by rw [hww 7 (by decide)]; rfl)
      have w8 : MX2_isWord (wL 8) (wB 8) xT = some (nI 0) := (iw 8 (by decide)).trans (by rw [hww 8 (by decide)]; rfl)
      have w9 : MX2_isWord (wL 9) (wB 9) xT = some (nI 0) := (iw 9 (by decide)).trans (by rw [hww 9 (by decide)]; rfl)
      have w10 : MX2_isWord (wL 10) (wB 10) xT = some (nI 1) := (iw 10 (by decide)).trans (by rw [hww 10 (by decide)]; rfl)
      have w11 : MX2_isWord (wL 11) (wB 11) xT = some (nI 0) := (iw 11 (by decide)).trans (by rw [hww 11 (by decide)]; rfl)
      have w12 : MX2_isWord (wL 12) (wB 12) xT = some (nI 0) := (iw 12 (by decide)).trans (by rw [hww 12 (by decide)]; rfl)
      obtain ⟨m2, hm2⟩ : ∃ m2, upA m1 7 (upd (m1 7) w (nI 8)) = m2 := ⟨_, rfl⟩
      have hcl : (nI w).toNatClampNeg = w := nI_clamp (by omega)
      have e7 : m2 7 w = nI 8 := by rw [← hm2, upA_s, pk_us]
      have a7 := at7 8
      have ff := f1 (nI 8)
      rw [hm2] at a7 ff
      have hA : MX2_readLine xT tT = some (nI 1, xT, up2 tT 0 4 (nI 0)) := by
        unfold MX2_readLine MX2_kindHere MX2_readPlainLaw MX2_plainLawHere
        simp (disch := omega) only [nm, jn0, jn1, jn2, jn3, jn4, jn5, bnd1_s, bnd2_s, bnd3_s, bnd4_s, lit_n, neg1, chkI_n, chkZ_n, chkC_n, bI_B, chkB_0, chkB_1, bI_t, bI_f, clamp_n, nI_add, subn, remn2, nat_rem, divn, pk_mul, ifle_t, ifle_f, iflt_t, iflt_f, ifeq_t, ifeq_f, ifm_f, ifm_t, if_true, if_false, w0, w1, w2, w3, w4, w5, w6, w7, w8, w9, w10, w11, w12]
      have hB : MX5_isLine mM tk (nI w) = some (nI 1, m2, (lN 923)) := by
        unfold MX5_isLine
        rw [k1, bnd2_s]
        refine (jn1_c (a := mI) (fun k => by simp (disch := omega) only [nm, jn0, jn1, jn2, jn3, jn4, jn5, bnd1_s, bnd2_s, bnd3_s, bnd4_s, lit_n, neg1, chkI_n, chkZ_n, chkC_n, bI_B, chkB_0, chkB_1, bI_t, bI_f, clamp_n, nI_add, subn, remn2, nat_rem, divn, pk_mul, ifle_t, ifle_f, iflt_t, iflt_f, ifeq_t, ifeq_f, ifm_f, ifm_t, if_true, if_false, etk, l64_n, iflL_t, iflL_f])).trans ?_
        refine (jn1_c (a := (nI 8)) (fun k => by simp (disch := omega) only [nm, jn0, jn1, jn2, jn3, jn4, jn5, bnd1_s, bnd2_s, bnd3_s, bnd4_s, lit_n, neg1, chkI_n, chkZ_n, chkC_n, bI_B, chkB_0, chkB_1, bI_t, bI_f, clamp_n, nI_add, subn, remn2, nat_rem, divn, pk_mul, ifle_t, ifle_f, iflt_t, iflt_f, ifeq_t, ifeq_f, ifm_f, ifm_t, if_true, if_false, etk, l64_n, iflL_t, iflL_f])).trans ?_
        refine (jn1_c (a := (nI 8)) (fun k => by simp (disch := omega) only [nm, jn0, jn1, jn2, jn3, jn4, jn5, bnd1_s, bnd2_s, bnd3_s, bnd4_s, lit_n, neg1, chkI_n, chkZ_n, chkC_n, bI_B, chkB_0, chkB_1, bI_t, bI_f, clamp_n, nI_add, subn, remn2, nat_rem, divn, pk_mul, ifle_t, ifle_f, iflt_t, iflt_f, ifeq_t, ifeq_f, ifm_f, ifm_t, if_true, if_false])).trans ?_
        rw [ok36 hw, nm_c, hcl, hm2, ok36 hw]
        simp only [e7]
        rw [if_neg (show ¬ (nI 8) = (0 : Int32) by decide), if_neg (show ¬ (nI 8) = (1 : Int32) by decide), if_neg (show ¬ (nI 8) = (2 : Int32) by decide), if_neg (show ¬ (nI 8) = (3 : Int32) by decide), if_neg (show ¬ (nI 8) = (4 : Int32) by decide), if_neg (show ¬ (nI 8) = (5 : Int32) by decide), if_neg (show ¬ (nI 8) = (6 : Int32) by decide), if_neg (show ¬ (nI 8) = (7 : Int32) by decide), if_pos (show (nI 8) = (8 : Int32) by decide)]
        rw [etk]
        rfl
      rw [hA, hB]
      obtain ⟨z1, z2, z3, z4, z5, z6, z7, z8, z9, z10, z11⟩ := a7
      right
      refine ⟨8, xT, _, _, _, tE L Bt b, 0, 0, rfl, rfl, hX, he1.2, z7, RT_law hT, IT_0 hI (Or.inl ⟨rfl, by decide⟩), CN_law z9 (by decide), ?_, ⟨z10, fun z => by omega, fun z => by omega⟩, ff⟩
      unfold okA; omega
    · rw [V11] at etk
      have w0 : MX2_isWord (wL 0) (wB 0) xT = some (nI 0) := (iw 0 (by decide)).trans (by rw [hww 0 (by decide)]; rfl)
      have w1 : MX2_isWord (wL 1) (wB 1) xT = some (nI 0) := (iw 1 (by decide)).trans (by rw [hww 1 (by decide)]; rfl)
      have w2 : MX2_isWord (wL 2) (wB 2) xT = some (nI 0) := (iw 2 (by decide)).trans (by rw [hww 2 (by decide)]; rfl)
      have w3 : MX2_isWord (wL 3) (wB 3) xT = some (nI 0) := (iw 3 (by decide)).trans (by rw [hww 3 (by decide)]; rfl)
      have w4 : MX2_isWord (wL 4) (wB 4) xT = some (nI 0) := (iw 4 (by decide)).trans (by rw [hww 4 (by decide)]; rfl)
      have w5 : MX2_isWord (wL 5) (wB 5) xT = some (nI 0) := (iw 5 (by decide)).trans (by rw [hww 5 (by decide)]; rfl)
      have w6 : MX2_isWord (wL 6) (wB 6) xT = some (nI 0) := (iw 6 (by decide)).trans (by rw [hww 6 (by decide)]; rfl)
      have w7 : MX2_isWord (wL 7) (wB 7) xT = some (nI 0) := (iw 7 (by decide)).trans (by rw [hww 7 (by decide)]; rfl)
      have w8 : MX2_isWord (wL 8) (wB 8) xT = some (nI 0) := (iw 8 (by decide)).trans (by rw [hww 8 (by decide)]; rfl)
      have w9 : MX2_isWord (wL 9) (wB 9) xT = some (nI 0) := (iw 9 (by decide)).trans (by rw [hww 9 (by decide)]; rfl)
      have w10 : MX2_isWord (wL 10) (wB 10) xT = some (nI 0) := (iw 10 (by decide)).trans (by rw [hww 10 (by decide)]; rfl)
      have w11 : MX2_isWord (wL 11) (wB 11) xT = some (nI 1) := (iw 11 (by decide)).trans (by rw [hww 11 (by decide)]; rfl)
      have w12 : MX2_isWord (wL 12) (wB 12) xT = some (nI 0) := (iw 12 (by decide)).trans (by rw [hww 12 (by decide)]; rfl)
      obtain ⟨m2, hm2⟩ : ∃ m2, upA m1 7 (upd (m1 7) w (nI 9)) = m2 := ⟨_, rfl⟩
      have hcl : (nI w).toNatClampNeg = w := nI_clamp (by omega)
      have e7 : m2 7 w = nI 9 := by rw [← hm2, upA_s, pk_us]
      have a7 := at7 9
      have ff := f1 (nI 9)
      rw [hm2] at a7 ff
      have hA : MX2_readLine xT tT = some (nI 1, xT, up2 tT 0 4 (nI 1)) := by
        unfold MX2_readLine MX2_kindHere MX2_readPlainLaw MX2_plainLawHere
        simp (disch := omega) only [nm, jn0, jn1, jn2, jn3, jn4, jn5, bnd1_s, bnd2_s, bnd3_s, bnd4_s, lit_n, neg1, chkI_n, chkZ_n, chkC_n, bI_B, chkB_0, chkB_1, bI_t, bI_f, clamp_n, nI_add, subn, remn2, nat_rem, divn, pk_mul, ifle_t, ifle_f, iflt_t, iflt_f, ifeq_t, ifeq_f, ifm_f, ifm_t, if_true, if_false, w0, w1, w2, w3, w4, w5, w6, w7, w8, w9, w10, w11, w12]
      have hB : MX5_isLine mM tk (nI w) = some (nI 1, m2, (lN 409469)) := by
        unfold MX5_isLine
        rw [k1, bnd2_s]
        refine (jn1_c (a := mI) (fun k => by simp (disch := omega) only [nm, jn0, jn1, jn2, jn3, jn4, jn5, bnd1_s, bnd2_s, bnd3_s, bnd4_s, lit_n, neg1, chkI_n, chkZ_n, chkC_n, bI_B, chkB_0, chkB_1, bI_t, bI_f, clamp_n, nI_add, subn, remn2, nat_rem, divn, pk_mul, ifle_t, ifle_f, iflt_t, iflt_f, ifeq_t, ifeq_f, ifm_f, ifm_t, if_true, if_false, etk, l64_n, iflL_t, iflL_f])).trans ?_
        refine (jn1_c (a := (nI 9)) (fun k => by simp (disch := omega) only [nm, jn0, jn1, jn2, jn3, jn4, jn5, bnd1_s, bnd2_s, bnd3_s, bnd4_s, lit_n, neg1, chkI_n, chkZ_n, chkC_n, bI_B, chkB_0, chkB_1, bI_t, bI_f, clamp_n, nI_add, subn, remn2, nat_rem, divn, pk_mul, ifle_t, ifle_f, iflt_t, iflt_f, ifeq_t, ifeq_f, ifm_f, ifm_t, if_true, if_false, etk, l64_n, iflL_t, iflL_f])).trans ?_
        refine (jn1_c (a := (nI 9)) (fun k => by simp (disch := omega) only [nm, jn0, jn1, jn2, jn3, jn4, jn5, bnd1_s, bnd2_s, bnd3_s, bnd4_s, lit_n, neg1, chkI_n, chkZ_n, chkC_n, bI_B, chkB_0, chkB_1, bI_t, bI_f, clamp_n, nI_add, subn, remn2, nat_rem, divn, pk_mul, ifle_t, ifle_f, iflt_t, iflt_f, ifeq_t, ifeq_f, ifm_f, ifm_t, if_true, if_false])).trans ?_
        rw [ok36 hw, nm_c, hcl, hm2, ok36 hw]
        simp only [e7]
        rw [if_neg (show ¬ (nI 9) = (0 : Int32) by decide), if_neg (show ¬ (nI 9) = (1 : Int32) by decide), if_neg (show ¬ (nI 9) = (2 : Int32) by decide), if_neg (show ¬ (nI 9) = (3 : Int32) by decide), if_neg (show ¬ (nI 9) = (4 : Int32) by decide), if_neg (show ¬ (nI 9) = (5 : Int32) by decide), if_neg (show ¬ (nI 9) = (6 : Int32) by decide), if_neg (show ¬ (nI 9) = (7 : Int32) by decide), if_neg (show ¬ (nI 9) = (8 : Int32) by decide), if_pos (show (nI 9) = (9 : Int32) by decide)]
        rw [etk]
        rfl
      rw [hA, hB]
      obtain ⟨z1, z2, z3, z4, z5, z6, z7, z8, z9, z10, z11⟩ := a7
      right
      refine ⟨9, xT, _, _, _, tE L Bt b, 0, 0, rfl, rfl, hX, he1.2, z7, RT_law hT, IT_0 hI (Or.inl ⟨rfl, by decide⟩), CN_law z9 (by decide), ?_, ⟨z10, fun z => by omega, fun z => by omega⟩, ff⟩
      unfold okA; omega
    · rw [V12] at etk
      have w0 : MX2_isWord (wL 0) (wB 0) xT = some (nI 0) := (iw 0 (by decide)).trans (by rw [hww 0 (by decide)]; rfl)
      have w1 : MX2_isWord (wL 1) (wB 1) xT = some (nI 0) := (iw 1 (by decide)).trans (by rw [hww 1 (by decide)]; rfl)
      have w2 : MX2_isWord (wL 2) (wB 2) xT = some (nI 0) := (iw 2 (by decide)).trans (by rw [hww 2 (by decide)]; rfl)
      have w3 : MX2_isWord (wL 3) (wB 3) xT = some (nI 0) := (iw 3 (by decide)).trans (by rw [hww 3 (by decide)]; rfl)
      have w4 : MX2_isWord (wL 4) (wB 4) xT = some (nI 0) := (iw 4 (by decide)).trans (by rw [hww 4 (by decide)]; rfl)
      have w5 : MX2_isWord (wL 5) (wB 5) xT = some (nI 0) := (iw 5 (by decide)).trans (by rw [hww 5 (by decide)]; rfl)
      have w6 : MX2_isWord (wL 6) (wB 6) xT = some (nI 0) := (iw 6 (by decide)).trans (by rw [hww 6 (by decide)]; rfl)
      have w7 : MX2_isWord (wL 7) (wB 7) xT = some (nI 0) := (iw 7 (by decide)).trans (by rw [hww 7 (by decide)]; rfl)
      have w8 : MX2_isWord (wL 8) (wB 8) xT = some (nI 0) := (iw 8 (by decide)).trans (by rw [hww 8 (by decide)]; rfl)
      have w9 : MX2_isWord (wL 9) (wB 9) xT = some (nI 0) := (iw 9 (by decide)).trans (by rw [hww 9 (by decide)]; rfl)
      have w10 : MX2_isWord (wL 10) (wB 10) xT = some (nI 0) := (iw 10 (by decide)).trans (by rw [hww 10 (by decide)]; rfl)
      have w11 : MX2_isWord (wL 11) (wB 11) xT = some (nI 0) := (iw 11 (by decide)).trans (by rw [hww 11 (by decide)]; rfl)
      have w12 : MX2_isWord (wL 12) (wB 12) xT = some (nI 1) := (iw 12 (by decide)).trans (by rw [hww 12 (by decide)]; rfl)
      obtain ⟨m2, hm2⟩ : ∃ m2, upA m1 7 (upd (m1 7) w (nI 10)) = m2 := ⟨_, rfl⟩
      have hcl : (nI w).toNatClampNeg = w := nI_clamp (by omega)
      have e7 : m2 7 w = nI 10 := by rw [← hm2, upA_s, pk_us]
      have a7 := at7 10
      have ff := f1 (nI 10)
      rw [hm2] at a7 ff
      have hA : MX2_readLine xT tT = some (nI 1, xT, up2 tT 0 4 (nI 2)) := by
        unfold MX2_readLine MX2_kindHere MX2_readPlainLaw MX2_plainLawHere
        simp (disch := omega) only [nm, jn0, jn1, jn2, jn3, jn4, jn5, bnd1_s, bnd2_s, bnd3_s, bnd4_s, lit_n, neg1, chkI_n, chkZ_n, chkC_n, bI_B, chkB_0, chkB_1, bI_t, bI_f, clamp_n, nI_add, subn, remn2, nat_rem, divn, pk_mul, ifle_t, ifle_f, iflt_t, iflt_f, ifeq_t, ifeq_f, ifm_f, ifm_t, if_true, if_false, w0, w1, w2, w3, w4, w5, w6, w7, w8, w9, w10, w11, w12]
      have hB : MX5_isLine mM tk (nI w) = some (nI 1, m2, (lN 358472)) := by
        unfold MX5_isLine
        rw [k1, bnd2_s]
        refine (jn1_c (a := mI) (fun k => by simp (disch := omega) only [nm, jn0, jn1, jn2, jn3, jn4, jn5, bnd1_s, bnd2_s, bnd3_s, bnd4_s, lit_n, neg1, chkI_n, chkZ_n, chkC_n, bI_B, chkB_0, chkB_1, bI_t, bI_f, clamp_n, nI_add, subn, remn2, nat_rem, divn, pk_mul, ifle_t, ifle_f, iflt_t, iflt_f, ifeq_t, ifeq_f, ifm_f, ifm_t, if_true, if_false, etk, l64_n, iflL_t, iflL_f])).trans ?_
        refine (jn1_c (a := (nI 10)) (fun k => by simp (disch := omega) only [nm, jn0, jn1, jn2, jn3, jn4, jn5, bnd1_s, bnd2_s, bnd3_s, bnd4_s, lit_n, neg1, chkI_n, chkZ_n, chkC_n, bI_B, chkB_0, chkB_1, bI_t, bI_f, clamp_n, nI_add, subn, remn2, nat_rem, divn, pk_mul, ifle_t, ifle_f, iflt_t, iflt_f, ifeq_t, ifeq_f, ifm_f, ifm_t, if_true, if_false, etk, l64_n, iflL_t, iflL_f])).trans ?_
        refine (jn1_c (a := (nI 10)) (fun k => by simp (disch := omega) only [nm, jn0, jn1, jn2, jn3, jn4, jn5, bnd1_s, bnd2_s, bnd3_s, bnd4_s, lit_n, neg1, chkI_n, chkZ_n, chkC_n, bI_B, chkB_0, chkB_1, bI_t, bI_f, clamp_n, nI_add, subn, remn2, nat_rem, divn, pk_mul, ifle_t, ifle_f, iflt_t, iflt_f, ifeq_t, ifeq_f, ifm_f, ifm_t, if_true, if_false])).trans ?_
        rw [ok36 hw, nm_c, hcl, hm2, ok36 hw]
        simp only [e7]
        rw [if_neg (show ¬ (nI 10) = (0 : Int32) by decide), if_neg (show ¬ (nI 10) = (1 : Int32) by decide), if_neg (show ¬ (nI 10) = (2 : Int32) by decide), if_neg (show ¬ (nI 10) = (3 : Int32) by decide), if_neg (show ¬ (nI 10) = (4 : Int32) by decide), if_neg (show ¬ (nI 10) = (5 : Int32) by decide), if_neg (show ¬ (nI 10) = (6 : Int32) by decide), if_neg (show ¬ (nI 10) = (7 : Int32) by decide), if_neg (show ¬ (nI 10) = (8 : Int32) by decide), if_neg (show ¬ (nI 10) = (9 : Int32) by decide), if_pos (show (nI 10) = (10 : Int32) by decide)]
        rw [etk]
        rfl
      rw [hA, hB]
      obtain ⟨z1, z2, z3, z4, z5, z6, z7, z8, z9, z10, z11⟩ := a7
      right
      refine ⟨10, xT, _, _, _, tE L Bt b, 0, 0, rfl, rfl, hX, he1.2, z7, RT_law hT, IT_0 hI (Or.inl ⟨rfl, by decide⟩), CN_law z9 (by decide), ?_, ⟨z10, fun z => by omega, fun z => by omega⟩, ff⟩
      unfold okA; omega
  | none =>
    have hww := wd_none hb1.2 hwd
    have w0 : MX2_isWord (wL 0) (wB 0) xT = some (nI 0) := (iw 0 (by decide)).trans (by rw [(hww 0 (by decide)).1]; rfl)
    have t0 : ¬ tkn L Bt b = lN 4078175 := V0 ▸ (hww 0 (by decide)).2
    have w1 : MX2_isWord (wL 1) (wB 1) xT = some (nI 0) := (iw 1 (by decide)).trans (by rw [(hww 1 (by decide)).1]; rfl)
    have t1 : ¬ tkn L Bt b = lN 72592 := V1 ▸ (hww 1 (by decide)).2
    have w2 : MX2_isWord (wL 2) (wB 2) xT = some (nI 0) := (iw 2 (by decide)).trans (by rw [(hww 2 (by decide)).1]; rfl)
    have t2 : ¬ tkn L Bt b = lN 201783983 := V2 ▸ (hww 2 (by decide)).2
    have w3 : MX2_isWord (wL 3) (wB 3) xT = some (nI 0) := (iw 3 (by decide)).trans (by rw [(hww 3 (by decide)).1]; rfl)
    have t3 : ¬ tkn L Bt b = lN 60284 := V3 ▸ (hww 3 (by decide)).2
    have w4 : MX2_isWord (wL 4) (wB 4) xT = some (nI 0) := (iw 4 (by decide)).trans (by rw [(hww 4 (by decide)).1]; rfl)
    have t4 : ¬ tkn L Bt b = lN 10506440 := V4 ▸ (hww 4 (by decide)).2
    have w5 : MX2_isWord (wL 5) (wB 5) xT = some (nI 0) := (iw 5 (by decide)).trans (by rw [(hww 5 (by decide)).1]; rfl)
    have t5 : ¬ tkn L Bt b = lN 459383 := V5 ▸ (hww 5 (by decide)).2
    have w6 : MX2_isWord (wL 6) (wB 6) xT = some (nI 0) := (iw 6 (by decide)).trans (by rw [(hww 6 (by decide)).1]; rfl)
    have t6 : ¬ tkn L Bt b = lN 316205 := V6 ▸ (hww 6 (by decide)).2
    have w7 : MX2_isWord (wL 7) (wB 7) xT = some (nI 0) := (iw 7 (by decide)).trans (by rw [(hww 7 (by decide)).1]; rfl)
    have t7 : ¬ tkn L Bt b = lN 122314 := V7 ▸ (hww 7 (by decide)).2
    have w8 : MX2_isWord (wL 8) (wB 8) xT = some (nI 0) := (iw 8 (by decide)).trans (by rw [(hww 8 (by decide)).1]; rfl)
    have t8 : ¬ tkn L Bt b = lN 9173 := V8 ▸ (hww 8 (by decide)).2
    have w9 : MX2_isWord (wL 9) (wB 9) xT = some (nI 0) := (iw 9 (by decide)).trans (by rw [(hww 9 (by decide)).1]; rfl)
    have t9 : ¬ tkn L Bt b = lN 1834209 := V9 ▸ (hww 9 (by decide)).2
    have w10 : MX2_isWord (wL 10) (wB 10) xT = some (nI 0) := (iw 10 (by decide)).trans (by rw [(hww 10 (by decide)).1]; rfl)
    have t10 : ¬ tkn L Bt b = lN 923 := V10 ▸ (hww 10 (by decide)).2
    have w11 : MX2_isWord (wL 11) (wB 11) xT = some (nI 0) := (iw 11 (by decide)).trans (by rw [(hww 11 (by decide)).1]; rfl)
    have t11 : ¬ tkn L Bt b = lN 409469 := V11 ▸ (hww 11 (by decide)).2
    have w12 : MX2_isWord (wL 12) (wB 12) xT = some (nI 0) := (iw 12 (by decide)).trans (by rw [(hww 12 (by decide)).1]; rfl)
    have t12 : ¬ tkn L Bt b = lN 358472 := V12 ▸ (hww 12 (by decide)).2
    have hA : MX2_readLine xT tT = some (nI 0, xT, tT) := by
      unfold MX2_readLine MX2_kindHere MX2_readPlainLaw MX2_plainLawHere
      simp (disch := omega) only [nm, jn0, jn1, jn2, jn3, jn4, jn5, bnd1_s, bnd2_s, bnd3_s, bnd4_s, lit_n, neg1, chkI_n, chkZ_n, chkC_n, bI_B, chkB_0, chkB_1, bI_t, bI_f, clamp_n, nI_add, subn, remn2, nat_rem, divn, pk_mul, ifle_t, ifle_f, iflt_t, iflt_f, ifeq_t, ifeq_f, ifm_f, ifm_t, if_true, if_false, w0, w1, w2, w3, w4, w5, w6, w7, w8, w9, w10, w11, w12]
    obtain ⟨m2, hm2⟩ : ∃ m2, upA m1 7 (upd (m1 7) w mI) = m2 := ⟨_, rfl⟩
    have hcl : (nI w).toNatClampNeg = w := nI_clamp (by omega)
    have e14 : m2 0 14 = nI b := by rw [← hm2, upA_r (by decide)]; exact k4
    have e7 : m2 7 w = mI := by rw [← hm2, upA_s, pk_us]
    have hf := r_fails e14
    have hB : MX5_isLine mM tk (nI w) = some (nI 0, up2 m2 0 18 (nI b), tkn L Bt b) := by
        unfold MX5_isLine
        rw [k1, bnd2_s]
        refine (jn1_c (a := mI) (fun k => by simp (disch := omega) only [nm, jn0, jn1, jn2, jn3, jn4, jn5, bnd1_s, bnd2_s, bnd3_s, bnd4_s, lit_n, neg1, chkI_n, chkZ_n, chkC_n, bI_B, chkB_0, chkB_1, bI_t, bI_f, clamp_n, nI_add, subn, remn2, nat_rem, divn, pk_mul, ifle_t, ifle_f, iflt_t, iflt_f, ifeq_t, ifeq_f, ifm_f, ifm_t, if_true, if_false, l64_n, iflc_f t0, iflc_f t1, iflc_f t2, iflc_f t3, iflc_f t4, iflc_f t5, iflc_f t6, iflc_f t7, iflc_f t8, iflc_f t9, iflc_f t10, iflc_f t11, iflc_f t12])).trans ?_
        refine (jn1_c (a := mI) (fun k => by simp (disch := omega) only [nm, jn0, jn1, jn2, jn3, jn4, jn5, bnd1_s, bnd2_s, bnd3_s, bnd4_s, lit_n, neg1, chkI_n, chkZ_n, chkC_n, bI_B, chkB_0, chkB_1, bI_t, bI_f, clamp_n, nI_add, subn, remn2, nat_rem, divn, pk_mul, ifle_t, ifle_f, iflt_t, iflt_f, ifeq_t, ifeq_f, ifm_f, ifm_t, if_true, if_false, l64_n, iflc_f t0, iflc_f t1, iflc_f t2, iflc_f t3, iflc_f t4, iflc_f t5, iflc_f t6, iflc_f t7, iflc_f t8, iflc_f t9, iflc_f t10, iflc_f t11, iflc_f t12])).trans ?_
        refine (jn1_c (a := mI) (fun k => by simp (disch := omega) only [nm, jn0, jn1, jn2, jn3, jn4, jn5, bnd1_s, bnd2_s, bnd3_s, bnd4_s, lit_n, neg1, chkI_n, chkZ_n, chkC_n, bI_B, chkB_0, chkB_1, bI_t, bI_f, clamp_n, nI_add, subn, remn2, nat_rem, divn, pk_mul, ifle_t, ifle_f, iflt_t, iflt_f, ifeq_t, ifeq_f, ifm_f, ifm_t, if_true, if_false])).trans ?_
        rw [ok36 hw, nm_c, hcl, hm2, ok36 hw]
        simp only [e7]
        rw [if_neg (show ¬ mI = (0 : Int32) by decide), if_neg (show ¬ mI = (1 : Int32) by decide), if_neg (show ¬ mI = (2 : Int32) by decide), if_neg (show ¬ mI = (3 : Int32) by decide), if_neg (show ¬ mI = (4 : Int32) by decide), if_neg (show ¬ mI = (5 : Int32) by decide), if_neg (show ¬ mI = (6 : Int32) by decide), if_neg (show ¬ mI = (7 : Int32) by decide), if_neg (show ¬ mI = (8 : Int32) by decide), if_neg (show ¬ mI = (9 : Int32) by decide), if_neg (show ¬ mI = (10 : Int32) by decide), if_neg (show ¬ mI = (11 : Int32) by decide), if_neg (show ¬ mI = (12 : Int32) by decide)]
        rw [hf]
        simp (disch := omega) only [nm, jn0, jn1, jn2, jn3, jn4, jn5, bnd1_s, bnd2_s, bnd3_s, bnd4_s, lit_n, neg1, chkI_n, chkZ_n, chkC_n, bI_B, chkB_0, chkB_1, bI_t, bI_f, clamp_n, nI_add, subn, remn2, nat_rem, divn, pk_mul, ifle_t, ifle_f, iflt_t, iflt_f, ifeq_t, ifeq_f, ifm_f, ifm_t, if_true, if_false]
    rw [hA, hB]
    left
    exact ⟨xT, tT, _, _, b, tE L Bt b, rfl, rfl, hX, h3, hb1.2, up2_s, by rw [← hm2]; exact (f1 mI).trans (fPs_up (by decide) (by decide) (by decide) (by decide))⟩
