/-! the class's search, deeper -/
abbrev RTy := Option (Int32 × GS × (Nat → Int64) × GS)
noncomputable def gByB (R : GS → (Nat → Int64) → GS → GS → RTy) (row : Nat) (r4 : Int32) (k11 : GS → (Nat → Int64) → GS → RTy) (tT : GS) (i2 : Int32) (x3 : Int32) (k16 : Int32 → GS → (Nat → Int64) → GS → RTy) (rec24 : Int32 → GS → (Nat → Int64) → GS → RTy) (x20 : Int32) (zZ_21 : GS) (lZ_22 : Nat → Int64) (gS_23 : GS) : RTy := if r4 ≤ x20 then (k11 zZ_21 lZ_22 gS_23) else (if (8 : Int32) ≤ x20 then (k11 zZ_21 lZ_22 gS_23) else (chkI x20 8 (bnd1 (MX1_moveHouse gS_23 tT i2 (zZ_21 row x20.toNatClampNeg)) fun (gS_28 : GS) => jn4 (fun (zZ_30 : GS) (lZ_31 : Nat → Int64) (gS_32 : GS) (x33 : Int32) => bnd1 (MX1_moveHouse gS_32 tT i2 x3) fun (gS_35 : GS) => if x33 = 0 then (nm (x20 + 1) fun (x38 : Int32) => rec24 x38 zZ_30 lZ_31 gS_35) else (k16 x20 zZ_30 lZ_31 gS_35)) (fun k34 => bnd4 (R zZ_21 lZ_22 gS_28 tT) fun (r39 : Int32) (zZ_40 : GS) (lZ_41 : Nat → Int64) (gS_42 : GS) => k34 zZ_40 lZ_41 gS_42 r39))))
noncomputable def gBy (R : GS → (Nat → Int64) → GS → GS → RTy) (kI : Int32) (row : Nat) (zZ : GS) (lZ : Nat → Int64) (gS : GS) (tT : GS) (i2 : Int32) : RTy := chkI kI 6 (chkI i2 8 (nm (gS 1 i2.toNatClampNeg) fun (x3 : Int32) => bnd2 (MX1_findWays gS (zZ row) tT i2) fun (r4 : Int32) (fR_5 : Nat → Int32) => nm (upA zZ row fR_5) fun (zZ_7 : GS) => jn3 (fun (zZ_8 : GS) (lZ_9 : Nat → Int64) (gS_10 : GS) => some ((0 : Int32), zZ_8, lZ_9, gS_10)) (fun k11 => jn4 (fun (x12 : Int32) (zZ_13 : GS) (lZ_14 : Nat → Int64) (gS_15 : GS) => chkI x12 8 (nm (((20 : Int32) * i2) + (zZ_13 row x12.toNatClampNeg)) fun (x18 : Int32) => nm (up2 zZ_13 0 5 x18) fun (zZ_19 : GS) => some ((1 : Int32), zZ_19, lZ_14, gS_15))) (fun k16 => lq4 (gByB R row r4 k11 tT i2 x3 k16) FU (0 : Int32) zZ_7 lZ gS))))
noncomputable def gRB (By : GS → (Nat → Int64) → GS → GS → Int32 → RTy) (kI : Int32) (tT : GS) (k11 : GS → (Nat → Int64) → GS → RTy) (k17 : GS → (Nat → Int64) → GS → RTy) (rec22 : Int32 → GS → (Nat → Int64) → GS → RTy) (x18 : Int32) (zZ_19 : GS) (lZ_20 : Nat → Int64) (gS_21 : GS) : RTy := if (tT 0 1) ≤ x18 then (k11 zZ_19 lZ_20 gS_21) else (bnd1 (MX0_mayHelp zZ_19 x18 kI) fun (r24 : Int32) => jn3 (fun (zZ_26 : GS) (lZ_27 : Nat → Int64) (gS_28 : GS) => nm (x18 + 1) fun (x30 : Int32) => rec22 x30 zZ_26 lZ_27 gS_28) (fun k29 => if r24 = 0 then (k29 zZ_19 lZ_20 gS_21) else (bnd4 (By zZ_19 lZ_20 gS_21 tT x18) fun (r32 : Int32) (zZ_33 : GS) (lZ_34 : Nat → Int64) (gS_35 : GS) => if r32 = 0 then (k29 zZ_33 lZ_34 gS_35) else (k17 zZ_33 lZ_34 gS_35))))
noncomputable def gR (By : GS → (Nat → Int64) → GS → GS → Int32 → RTy) (kI : Int32) (zZ : GS) (lZ : Nat → Int64) (gS : GS) (tT : GS) : RTy := jn0 (some ((0 : Int32), zZ, lZ, gS)) (fun k1 => bnd1 (MX1_placesKey gS tT) fun (r2 : Int64) => nm ((r2 * (8 : Int64)) + (kI.toInt64)) fun (y4 : Int64) => nm (slK y4) fun (x5 : Int32) => chkI x5 4096 (if (lg_cmp (lZ x5.toNatClampNeg) y4) = 0 then (some ((0 : Int32), zZ, lZ, gS)) else (jn3 (fun (zZ_8 : GS) (lZ_9 : Nat → Int64) (gS_10 : GS) => chkI x5 4096 (nm (vp_updL lZ_9 x5.toNatClampNeg y4) fun (lZ_13 : Nat → Int64) => some ((0 : Int32), zZ_8, lZ_13, gS_10))) (fun k11 => jn3 (fun (zZ_14 : GS) (lZ_15 : Nat → Int64) (gS_16 : GS) => some ((1 : Int32), zZ_14, lZ_15, gS_16)) (fun k17 => lq4 (gRB By kI tT k11 k17) FU (0 : Int32) zZ lZ gS)))))
theorem eBy2 : MX0_reachesBy_2 = gBy MX0_reaches_1 2 3 := rfl
theorem eBy3 : MX0_reachesBy_3 = gBy MX0_reaches_2 3 4 := rfl
theorem eBy4 : MX0_reachesBy_4 = gBy MX0_reaches_3 4 5 := rfl
theorem eBy5 : MX0_reachesBy_5 = gBy MX0_reaches_4 5 6 := rfl
theorem eR2 : MX0_reaches_2 = gR MX0_reachesBy_2 2 := rfl
theorem eR3 : MX0_reaches_3 = gR MX0_reachesBy_3 3 := rfl
theorem eR4 : MX0_reaches_4 = gR MX0_reachesBy_4 4 := rfl
theorem eR5 : MX0_reaches_5 = gR MX0_reachesBy_5 5 := rfl
theorem eB1 : MX0_reaches_1B = MX0_reaches_1 := rfl
theorem eB2 : MX0_reaches_2B = MX0_reaches_2 := rfl
theorem eB3 : MX0_reaches_3B = MX0_reaches_3 := rfl
theorem eB4 : MX0_reaches_4B = MX0_reaches_4 := rfl
theorem eB5 : MX0_reaches_5B = MX0_reaches_5 := rfl
/-- what a search of depth n + 1 must do -/
def SRy (T : NN) (tT : GS) (a b n : Nat) (By : GS → (Nat → Int64) → GS → GS → Int32 → RTy) : Prop := ∀ (zZ : GS) (lZ : Nat → Int64) (gS : GS) (P : Nat → Nat) (h : Nat), PS gS T P → IP T P → zZ 0 3 = nI a → zZ 0 4 = nI b → DE T a b lZ → h < T 0 1 → ∃ zZ' lZ' gS', By zZ lZ gS tT (nI h) = some (bI (wyF T a b false n P h).isSome, zZ', lZ', gS') ∧ PS gS' T P ∧ DE T a b lZ' ∧ zK a b (n + 2) zZ zZ' ∧ ∀ i, wyF T a b false n P h = some i → zZ' 0 5 = nI (20 * h + wy T P h i)
def SR (T : NN) (tT : GS) (a b n : Nat) (R : GS → (Nat → Int64) → GS → GS → RTy) : Prop := ∀ (zZ : GS) (lZ : Nat → Int64) (gS : GS) (P : Nat → Nat), PS gS T P → IP T P → zZ 0 3 = nI a → zZ 0 4 = nI b → DE T a b lZ → ∃ zZ' lZ' gS', R zZ lZ gS tT = some (bI (rc T a b false (n + 1) P), zZ', lZ', gS') ∧ PS gS' T P ∧ DE T a b lZ' ∧ zK a b (n + 2) zZ zZ' ∧ (rc T a b false (n + 1) P = true → zZ' 0 5 = nI (rl T a b false n P))
theorem SRy_s {T : NN} {tT : GS} {a b n : Nat} {R : GS → (Nat → Int64) → GS → GS → RTy} {kI : Int32} (hT : RT tT T) (hI : IT T) (hR : SR T tT a b n R) (hk : kI = nI (n + 2)) (hn : n + 2 < 6) : SRy T tT a b (n + 1) (gBy R kI (n + 3)) := by
  intro zZ lZ gS P h hS hP z3 z4 hD hh
  have i2 := hI.1.2.2.1
  have i1 := hI.1.2.1
  have hlen := ways_len (P := P) (h := h) hI
  have e3 := hS.1 h hh
  obtain ⟨f', q1, q2⟩ := PS_fw hT hI hS hP hh (zZ (n + 3))
  have hch : (nI h).toNatClampNeg = h := nI_clamp (by omega)
  unfold gBy
  rw [chk_e hk hn (by decide), chkI_n (show h < 8 by omega) (by decide), hch, e3, nm_c, q1, bnd2_s, nm_c]
  simp only [jn3, jn4]
  have k2 : ∀ i, (upA zZ (n + 3) f') (n + 3) i = f' i := fun i => by rw [upA_s]
  have w3 : (upA zZ (n + 3) f') 0 3 = nI a := by rw [upA_r (by omega)]; exact z3
  have w4 : (upA zZ (n + 3) f') 0 4 = nI b := by rw [upA_r (by omega)]; exact z4
  have zk : zK a b (n + 3) zZ (upA zZ (n + 3) f') := ⟨w3, w4, fun i j k => by rw [upA_r (by omega)]⟩
  refine lq4_rel (fun i x (z : GS) (l : Nat → Int64) (g : GS) => x = nI i ∧ PS g T P ∧ DE T a b l ∧ zK a b (n + 3) zZ z ∧ (∀ i, i < (ways T P h).length → z (n + 3) i = nI (wy T P h i)) ∧ fst1 (fun i => rc T a b false (n + 1) (mvP T P h i)) i = none) (ways T P h).length (fun r => ∃ zZ' lZ' gS', r = some (bI (wyF T a b false (n + 1) P h).isSome, zZ', lZ', gS') ∧ PS gS' T P ∧ DE T a b lZ' ∧ zK a b (n + 1 + 2) zZ zZ' ∧ ∀ i, wyF T a b false (n + 1) P h = some i → zZ' 0 5 = nI (20 * h + wy T P h i)) ?_ _ _ _ _ ⟨rfl, hS, hD, zk, fun i hi => by rw [k2]; exact q2 i hi, rfl⟩ (FU_lt (by omega))
  rintro i x z l g hi ⟨rfl, hg, hl, hz, hr, hf⟩
  by_cases c : i < (ways T P h).length
  · have hwl := wy_lt hI hP hh c
    have hci : (nI i).toNatClampNeg = i := nI_clamp (by omega)
    have hP' := IP_mv hI hP hh c
    obtain ⟨g1, m1, m2⟩ := PS_mv (q := wy T P h i) hT hI hg hP hh hwl
    obtain ⟨z', l', g2, r1, r2, r3, r4, r5⟩ := hR z l g1 (mvP T P h i) m2 hP' hz.1 hz.2.1 hl
    obtain ⟨g3, m3, m4⟩ := PS_bk hT hI (h := h) (i := i) r2 hP hP' hh
    have hs := fst1_s0 hf
    have hz' : zK a b (n + 3) zZ z' := hz.trans (r4.m (by omega))
    have hr' : ∀ i, i < (ways T P h).length → z' (n + 3) i = nI (wy T P h i) := fun i hi => by rw [r4.2.2 _ _ (by omega)]; exact hr i hi
    by_cases d : rc T a b false (n + 1) (mvP T P h i) = true
    · rw [if_pos d] at hs
      have hw : wyF T a b false (n + 1) P h = some i := fst1_mono hs c
      refine Or.inr ⟨some (nI 1, up2 z' 0 5 (nI (20 * h + wy T P h i)), l', g3), ⟨_, l', g3, by rw [hw]; rfl, m4, r3, ⟨by rw [up2_n (by decide)]; exact hz'.1, by rw [up2_n (by decide)]; exact hz'.2.1, fun i j k => by rw [up2_r (by omega)]; exact hz'.2.2 i j k⟩, fun i' hi' => ?_⟩, fun rec => ?_⟩
      · rw [hw] at hi'; cases hi'; rw [up2_s]
      · rw [d] at r1
        unfold gByB
        simp (disch := omega) only [nm, jn0, jn1, jn2, jn3, jn4, jn5, bnd1_s, bnd2_s, bnd3_s, bnd4_s, lit_n, neg1, chkI_n, chkZ_n, chkC_n, bI_B, chkB_0, chkB_1, bI_t, bI_f, clamp_n, nI_add, subn, remn2, nat_rem, divn, pk_mul, ifle_t, ifle_f, iflt_t, iflt_f, ifeq_t, ifeq_f, ifm_f, ifm_t, if_true, if_false, jn4, hci, hr i c, hr' i c, m1, r1, m3]
    · have d' : rc T a b false (n + 1) (mvP T P h i) = false := by simpa using d
      rw [if_neg d] at hs
      rw [d'] at r1
      refine Or.inl ⟨c, nI (i + 1), z', l', g3, ⟨rfl, m4, r3, hz', hr', hs⟩, fun rec => ?_⟩
      unfold gByB
      simp (disch := omega) only [nm, jn0, jn1, jn2, jn3, jn4, jn5, bnd1_s, bnd2_s, bnd3_s, bnd4_s, lit_n, neg1, chkI_n, chkZ_n, chkC_n, bI_B, chkB_0, chkB_1, bI_t, bI_f, clamp_n, nI_add, subn, remn2, nat_rem, divn, pk_mul, ifle_t, ifle_f, iflt_t, iflt_f, ifeq_t, ifeq_f, ifm_f, ifm_t, if_true, if_false, jn4, hci, hr i c, m1, r1, m3]
  · have : i = (ways T P h).length := by omega
    subst this
    have hw : wyF T a b false (n + 1) P h = none := hf
    refine Or.inr ⟨some (nI 0, z, l, g), ⟨_, l, g, by rw [hw]; rfl, hg, hl, hz, fun i' hi' => by rw [hw] at hi'; cases hi'⟩, fun rec => ?_⟩
    unfold gByB
    simp (disch := omega) only [nm, jn0, jn1, jn2, jn3, jn4, jn5, bnd1_s, bnd2_s, bnd3_s, bnd4_s, lit_n, neg1, chkI_n, chkZ_n, chkC_n, bI_B, chkB_0, chkB_1, bI_t, bI_f, clamp_n, nI_add, subn, remn2, nat_rem, divn, pk_mul, ifle_t, ifle_f, iflt_t, iflt_f, ifeq_t, ifeq_f, ifm_f, ifm_t, if_true, if_false]
