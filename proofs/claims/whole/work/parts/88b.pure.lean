/-! the class's search -/
def PS (gS : GS) (T : NN) (P : Nat → Nat) : Prop := (∀ h, h < T 0 1 → gS 1 h = nI (P h)) ∧ gS 0 4 = nI (ocN T P (T 0 1)) ∧ gS 0 8 = nI 0
theorem PS_mv {gS tT : GS} {T : NN} {P : Nat → Nat} {h q : Nat} (hT : RT tT T) (hI : IT T) (hS : PS gS T P) (hP : IP T P) (hh : h < T 0 1) (hq : q < T 0 0) : ∃ g', MX1_moveHouse gS tT (nI h) (nI q) = some g' ∧ PS g' T (pU P h q) := by
  obtain ⟨g', e, h1, h2, h3, h4⟩ := p_moveHouse hT hI hS.1 hP.1 hS.2.1 hP.2 hh hq
  exact ⟨g', e, h1, h2, (h3 8 (by decide)).trans hS.2.2⟩
theorem pU_bk {P : Nat → Nat} {h q : Nat} : pU (pU P h q) h (P h) = P := by
  funext a
  unfold pU
  by_cases c : a = h
  · subst c; rw [if_pos rfl]
  · rw [if_neg c, if_neg c]
theorem PS_bk {gS tT : GS} {T : NN} {P : Nat → Nat} {h i : Nat} (hT : RT tT T) (hI : IT T) (hS : PS gS T (mvP T P h i)) (hP : IP T P) (hP' : IP T (mvP T P h i)) (hh : h < T 0 1) : ∃ g', MX1_moveHouse gS tT (nI h) (nI (P h)) = some g' ∧ PS g' T P := by
  obtain ⟨g', e, h1⟩ := PS_mv hT hI hS hP' hh (hP.1 h hh)
  exact ⟨g', e, by unfold mvP at h1; rwa [pU_bk] at h1⟩
theorem PS_fw {gS tT : GS} {T : NN} {P : Nat → Nat} {h : Nat} (hT : RT tT T) (hI : IT T) (hS : PS gS T P) (hP : IP T P) (hh : h < T 0 1) (fR : Nat → Int32) : ∃ f', MX1_findWays gS fR tT (nI h) = some (nI (ways T P h).length, f') ∧ ∀ i, i < (ways T P h).length → f' i = nI (wy T P h i) := by
  have i2 := hI.1.2.2.1
  have ho := ocN_lt hP.1
  have e12 := two_12 hI.1.2.1
  obtain ⟨f', e, r⟩ := p_findWays hT hI (hS.1 h hh) (hP.1 h hh) hS.2.1 (by omega) hS.2.2 (by decide) (by omega) fR
  rw [mk_0] at e r
  refine ⟨f', e, fun i hi => ?_⟩
  rw [r i hi]
  congr 1
  unfold wy
  rw [List.getD_eq_getElem?_getD, List.getElem?_eq_getElem hi]
  rfl
theorem PS_key {gS tT : GS} {T : NN} {P : Nat → Nat} (hT : RT tT T) (hI : IT T) (hS : PS gS T P) (hP : IP T P) : MX1_placesKey gS tT = some (lN (pkk P (T 0 1))) := by
  have i2 := hI.1.2.2.1
  have i1 := hI.1.2.1
  have t1 := hT.1.2.1
  unfold MX1_placesKey jn1
  refine lq2_run (fun i => lN (pkk P i)) nI (T 0 1) _ ?_ ?_ FU (FU_lt (by omega))
  · intro i hi rec
    have e := hS.1 i hi
    have l := hP.1 i hi
    have h1 := pkk_lt (P := P) (n := i) (fun h hh => by have := hP.1 h (by omega); omega)
    have h2 := pow16_le (n := i) (by omega)
    have k := key_s (a := pkk P i) (b := P i) (i := 4) (by decide) (by omega) (by omega) (by omega)
    unfold BX1_placesKey_4
    simp (disch := omega) only [nm, jn0, jn1, jn2, jn3, jn4, jn5, bnd1_s, bnd2_s, bnd3_s, bnd4_s, lit_n, neg1, chkI_n, chkZ_n, chkC_n, bI_B, chkB_0, chkB_1, bI_t, bI_f, clamp_n, nI_add, subn, remn2, nat_rem, divn, pk_mul, ifle_t, ifle_f, iflt_t, iflt_f, ifeq_t, ifeq_f, ifm_f, ifm_t, if_true, if_false, t1, e, k]
    rfl
  · intro rec
    unfold BX1_placesKey_4
    simp (disch := omega) only [nm, jn0, jn1, jn2, jn3, jn4, jn5, bnd1_s, bnd2_s, bnd3_s, bnd4_s, lit_n, neg1, chkI_n, chkZ_n, chkC_n, bI_B, chkB_0, chkB_1, bI_t, bI_f, clamp_n, nI_add, subn, remn2, nat_rem, divn, pk_mul, ifle_t, ifle_f, iflt_t, iflt_f, ifeq_t, ifeq_f, ifm_f, ifm_t, if_true, if_false, t1]
def slK (k : Int64) : Int32 := (((k * (-7046029254386353131 : Int64)).toUInt64 >>> ((52 : Int32).toInt64.toUInt64 &&& Int64.toUInt64 63)).toInt64).toInt32
def slN (k : Int64) : Nat := (slK k).toNatClampNeg
theorem slK_n (k : Int64) : slN k < 4096 ∧ slK k = nI (slN k) := by
  have : ∃ s, s < 4096 ∧ slK k = nI s := by
    obtain ⟨n, hn, e⟩ := wb_of (k * (-7046029254386353131 : Int64))
    refine ⟨n / 2 ^ 52, by omega, ?_⟩
    have w := wb_shr hn (k := 52) (by decide)
    unfold slK
    rw [e]
    have w' : ((lN n).toUInt64 >>> ((52 : Int32).toInt64.toUInt64 &&& Int64.toUInt64 63)).toInt64 = lN (n / 2 ^ 52) := w
    rw [w']
    exact lN_i _
  obtain ⟨s, hs, e⟩ := this
  have c : slN k = s := by unfold slN; rw [e]; exact nI_clamp (by omega)
  rw [c]
  exact ⟨hs, e⟩
def kk (T : NN) (P : Nat → Nat) (l : Nat) : Int64 := lN (pkk P (T 0 1) * 8 + l)
theorem kk_e {T : NN} {P : Nat → Nat} {l : Nat} {lI : Int32} (hl : lI = nI l) (h : l < 100) : lN (pkk P (T 0 1)) * (8 : Int64) + lI.toInt64 = kk T P l := by
  subst hl
  rw [nI_l (by omega)]
  unfold kk lN
  rw [Int64.ofNat_add, Int64.ofNat_mul]
  rfl
theorem kk_inj {T : NN} {P P' : Nat → Nat} {l l' : Nat} (hI : IT T) (hP : IP T P) (hP' : IP T P') (h : l < 8) (h' : l' < 8) (e : kk T P l = kk T P' l') : agr T P P' ∧ l = l' := by
  have i2 := hI.1.2.2.1
  have i1 := hI.1.2.1
  have a1 := pkk_lt (P := P) (n := T 0 1) (fun h hh => by have := hP.1 h hh; omega)
  have a2 := pkk_lt (P := P') (n := T 0 1) (fun h hh => by have := hP'.1 h hh; omega)
  have a3 := pow16_le i2
  unfold kk at e
  have := (lN_inj (by omega) (by omega)).mp e
  have e1 : pkk P (T 0 1) = pkk P' (T 0 1) := by omega
  exact ⟨(pkk_inj (fun h hh => by have := hP.1 h hh; omega) (fun h hh => by have := hP'.1 h hh; omega)).mp e1, by omega⟩
/-- what is set down as a dead end is one -/
def DE (T : NN) (a b : Nat) (lZ : Nat → Int64) : Prop := ∀ (P : Nat → Nat) (l : Nat), 1 ≤ l → l ≤ 5 → IP T P → lZ (slN (kk T P l)) = kk T P l → rc T a b false l P = false
theorem DE_put {T : NN} {a b l : Nat} {lZ : Nat → Int64} {P : Nat → Nat} (hI : IT T) (ha : a < T 0 1) (hb : b < T 0 1) (h : DE T a b lZ) (hP : IP T P) (hl : l ≤ 5) (hf : rc T a b false l P = false) : DE T a b (vp_updL lZ (slN (kk T P l)) (kk T P l)) := by
  intro P' l' h1 h2 hP' e
  by_cases c : slN (kk T P' l') = slN (kk T P l)
  · have : vp_updL lZ (slN (kk T P l)) (kk T P l) (slN (kk T P' l')) = kk T P l := by rw [c]; simp [vp_updL]
    rw [this] at e
    obtain ⟨e1, e2⟩ := kk_inj hI hP hP' (by omega) (by omega) e
    subst e2
    rw [← rc_cg ha hb e1]; exact hf
  · have : vp_updL lZ (slN (kk T P l)) (kk T P l) (slN (kk T P' l')) = lZ (slN (kk T P' l')) := by simp [vp_updL, c]
    rw [this] at e
    exact h P' l' h1 h2 hP' e
theorem p_help {zZ : GS} {a b n h : Nat} (z3 : zZ 0 3 = nI a) (z4 : zZ 0 4 = nI b) (ha : a < 100) (hb : b < 100) (hh : h < 100) (hn : n < 100) : MX0_mayHelp zZ (nI h) (nI (n + 1)) = some (bI (hlp a b n h)) := by
  unfold MX0_mayHelp hlp
  by_cases c : n ≠ 0
  · rw [decide_eq_true (Or.inl c)]
    simp (disch := omega) only [nm, jn0, jn1, jn2, jn3, jn4, jn5, bnd1_s, bnd2_s, bnd3_s, bnd4_s, lit_n, neg1, chkI_n, chkZ_n, chkC_n, bI_B, chkB_0, chkB_1, bI_t, bI_f, clamp_n, nI_add, subn, remn2, nat_rem, divn, pk_mul, ifle_t, ifle_f, iflt_t, iflt_f, ifeq_t, ifeq_f, ifm_f, ifm_t, if_true, if_false]
  · by_cases d : h = a
    · rw [decide_eq_true (Or.inr (Or.inl d))]
      simp (disch := omega) only [nm, jn0, jn1, jn2, jn3, jn4, jn5, bnd1_s, bnd2_s, bnd3_s, bnd4_s, lit_n, neg1, chkI_n, chkZ_n, chkC_n, bI_B, chkB_0, chkB_1, bI_t, bI_f, clamp_n, nI_add, subn, remn2, nat_rem, divn, pk_mul, ifle_t, ifle_f, iflt_t, iflt_f, ifeq_t, ifeq_f, ifm_f, ifm_t, if_true, if_false, z3]
    · by_cases e : h = b
      · rw [decide_eq_true (Or.inr (Or.inr e))]
        simp (disch := omega) only [nm, jn0, jn1, jn2, jn3, jn4, jn5, bnd1_s, bnd2_s, bnd3_s, bnd4_s, lit_n, neg1, chkI_n, chkZ_n, chkC_n, bI_B, chkB_0, chkB_1, bI_t, bI_f, clamp_n, nI_add, subn, remn2, nat_rem, divn, pk_mul, ifle_t, ifle_f, iflt_t, iflt_f, ifeq_t, ifeq_f, ifm_f, ifm_t, if_true, if_false, z3, z4]
      · rw [decide_eq_false (by omega)]
        simp (disch := omega) only [nm, jn0, jn1, jn2, jn3, jn4, jn5, bnd1_s, bnd2_s, bnd3_s, bnd4_s, lit_n, neg1, chkI_n, chkZ_n, chkC_n, bI_B, chkB_0, chkB_1, bI_t, bI_f, clamp_n, nI_add, subn, remn2, nat_rem, divn, pk_mul, ifle_t, ifle_f, iflt_t, iflt_f, ifeq_t, ifeq_f, ifm_f, ifm_t, if_true, if_false, z3, z4]
/-- what a search of depth n + 1 keeps -/
def zK (a b m : Nat) (z z' : GS) : Prop := z' 0 3 = nI a ∧ z' 0 4 = nI b ∧ ∀ i j, m < i → z' i j = z i j
theorem zK.trans {a b m : Nat} {z z' z'' : GS} (h : zK a b m z z') (h' : zK a b m z' z'') : zK a b m z z'' := ⟨h'.1, h'.2.1, fun i j k => (h'.2.2 i j k).trans (h.2.2 i j k)⟩
theorem zK.m {a b m m' : Nat} {z z' : GS} (h : zK a b m z z') (e : m ≤ m') : zK a b m' z z' := ⟨h.1, h.2.1, fun i j k => h.2.2 i j (by omega)⟩
theorem chk_e {β : Type} {i : Int32} {m n : Nat} {k : Option β} (e : i = nI m) (h : m < n) (hn : n < 10000) : chkI i n k = k := by subst e; exact chkI_n h (by omega)
theorem by1 {zZ gS tT : GS} {T : NN} {P : Nat → Nat} {a b h : Nat} (hT : RT tT T) (hI : IT T) (ha : a < T 0 1) (hb : b < T 0 1) (hS : PS gS T P) (hP : IP T P) (z3 : zZ 0 3 = nI a) (z4 : zZ 0 4 = nI b) (hh : h < T 0 1) : ∃ zZ' gS', MX0_reachesBy_1 zZ gS tT (nI h) = some (bI (wyF T a b false 0 P h).isSome, zZ', gS') ∧ PS gS' T P ∧ zK a b 2 zZ zZ' ∧ ∀ i, wyF T a b false 0 P h = some i → zZ' 0 5 = nI (20 * h + wy T P h i) := by
  have i2 := hI.1.2.2.1
  have i1 := hI.1.2.1
  have hlen := ways_len (P := P) (h := h) hI
  have e3 := hS.1 h hh
  obtain ⟨f', q1, q2⟩ := PS_fw hT hI hS hP hh (zZ 2)
  have hch : (nI h).toNatClampNeg = h := nI_clamp (by omega)
  unfold MX0_reachesBy_1
  rw [chk_e (show (1 : Int32) = nI 1 from rfl) (by decide) (by decide), chkI_n (show h < 8 by omega) (by decide), hch, e3, nm_c, q1, bnd2_s, nm_c]
  simp only [jn1, jn2]
  have k2 : ∀ i, (upA zZ 2 f') 2 i = f' i := fun i => by rw [upA_s]
  have w3 : (upA zZ 2 f') 0 3 = nI a := by rw [upA_r (by decide)]; exact z3
  have w4 : (upA zZ 2 f') 0 4 = nI b := by rw [upA_r (by decide)]; exact z4
  have zk : zK a b 2 zZ (upA zZ 2 f') := ⟨w3, w4, fun i j k => by rw [upA_r (by omega)]⟩
  refine lq2_rel (fun i x (g : GS) => x = nI i ∧ PS g T P ∧ fst1 (fun i => rc T a b false 0 (mvP T P h i)) i = none) (ways T P h).length (fun r => ∃ zZ' gS', r = some (bI (wyF T a b false 0 P h).isSome, zZ', gS') ∧ PS gS' T P ∧ zK a b 2 zZ zZ' ∧ ∀ i, wyF T a b false 0 P h = some i → zZ' 0 5 = nI (20 * h + wy T P h i)) ?_ _ _ ⟨rfl, hS, rfl⟩ (FU_lt (by omega))
  rintro i x g hi ⟨rfl, hg, hn⟩
  by_cases c : i < (ways T P h).length
  · have hwl := wy_lt hI hP hh c
    have hci : (nI i).toNatClampNeg = i := nI_clamp (by omega)
    have hP' := IP_mv hI hP hh c
    obtain ⟨g1, m1, m2⟩ := PS_mv (q := wy T P h i) hT hI hg hP hh hwl
    have bes1 := p_areBeside hT hI m2.1 hP'.1 ha hb
    obtain ⟨g2, m3, m4⟩ := PS_bk hT hI (h := h) (i := i) m2 hP hP' hh
    have hs := fst1_s0 hn
    by_cases d : rc T a b false 0 (mvP T P h i) = true
    · rw [if_pos d] at hs
      have hw : wyF T a b false 0 P h = some i := fst1_mono hs c
      refine Or.inr ⟨some (nI 1, up2 (upA zZ 2 f') 0 5 (nI (20 * h + wy T P h i)), g2), ⟨_, g2, by rw [hw]; rfl, m4, ⟨by rw [up2_n (by decide)]; exact w3, by rw [up2_n (by decide)]; exact w4, fun i j k => by rw [up2_r (by omega)]; exact zk.2.2 i j k⟩, fun i' hi' => ?_⟩, fun rec => ?_⟩
      · rw [hw] at hi'; cases hi'; rw [up2_s]
      · have d' : bes T (pU P h (wy T P h i)) a b = true := d
        unfold BX0_reachesBy_1_32
        simp (disch := omega) only [nm, jn0, jn1, jn2, jn3, jn4, jn5, bnd1_s, bnd2_s, bnd3_s, bnd4_s, lit_n, neg1, chkI_n, chkZ_n, chkC_n, bI_B, chkB_0, chkB_1, bI_t, bI_f, clamp_n, nI_add, subn, remn2, nat_rem, divn, pk_mul, ifle_t, ifle_f, iflt_t, iflt_f, ifeq_t, ifeq_f, ifm_f, ifm_t, if_true, if_false, k2, hci, q2 i c, m1, w3, w4, bes1, d', m3]
    · have d' : bes T (pU P h (wy T P h i)) a b = false := by
        have : rc T a b false 0 (mvP T P h i) = false := by simpa using d
        exact this
      rw [if_neg d] at hs
      refine Or.inl ⟨c, nI (i + 1), g2, ⟨rfl, m4, hs⟩, fun rec => ?_⟩
      unfold BX0_reachesBy_1_32
      simp (disch := omega) only [nm, jn0, jn1, jn2, jn3, jn4, jn5, bnd1_s, bnd2_s, bnd3_s, bnd4_s, lit_n, neg1, chkI_n, chkZ_n, chkC_n, bI_B, chkB_0, chkB_1, bI_t, bI_f, clamp_n, nI_add, subn, remn2, nat_rem, divn, pk_mul, ifle_t, ifle_f, iflt_t, iflt_f, ifeq_t, ifeq_f, ifm_f, ifm_t, if_true, if_false, k2, hci, q2 i c, m1, w3, w4, bes1, d', m3]
  · have : i = (ways T P h).length := by omega
    subst this
    have hw : wyF T a b false 0 P h = none := hn
    refine Or.inr ⟨some (nI 0, upA zZ 2 f', g), ⟨_, g, by rw [hw]; rfl, hg, zk, fun i' hi' => by rw [hw] at hi'; cases hi'⟩, fun rec => ?_⟩
    unfold BX0_reachesBy_1_32
    simp (disch := omega) only [nm, jn0, jn1, jn2, jn3, jn4, jn5, bnd1_s, bnd2_s, bnd3_s, bnd4_s, lit_n, neg1, chkI_n, chkZ_n, chkC_n, bI_B, chkB_0, chkB_1, bI_t, bI_f, clamp_n, nI_add, subn, remn2, nat_rem, divn, pk_mul, ifle_t, ifle_f, iflt_t, iflt_f, ifeq_t, ifeq_f, ifm_f, ifm_t, if_true, if_false]
