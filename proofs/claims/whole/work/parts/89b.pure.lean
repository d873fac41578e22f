/-! how all begins -/
def T00 : NN := lay (fun _ _ => 0) 6
theorem zg0 (i j : Nat) : zg i j = nI 0 := rfl
theorem T00_00 : T00 0 0 = 6 := rfl
theorem T00_05 : T00 0 5 = 1 := rfl
theorem T00_1 (q : Nat) : T00 1 q = 1 := by simp [T00, lay]
theorem T00_z (i j : Nat) (h : i ≠ 1) (h0 : i = 0 → j ≠ 0 ∧ j ≠ 5) : T00 i j = 0 := by
  unfold T00 lay
  by_cases c : i = 0
  · have := h0 c
    rw [if_pos c, if_neg this.1, if_neg this.2]
  · rw [if_neg c, if_neg h]
theorem IT_00 : IT T00 := by
  have e1 := T00_z 0 1 (by decide) (by decide)
  have e2 := T00_z 0 2 (by decide) (by decide)
  have e3 := T00_z 0 3 (by decide) (by decide)
  have e4 := T00_z 0 4 (by decide) (by decide)
  refine ⟨⟨by rw [T00_00]; decide, by rw [T00_00]; decide, by rw [e1]; decide, by rw [e2]; decide, by rw [e3]; decide, by rw [e4]; decide, by rw [T00_05]; decide⟩, fun q _ => by rw [T00_1]; decide, fun h _ => by rw [T00_z 2 h (by decide) (by simp)]; decide, fun h hh => ?_, fun k hk => ?_, fun k hk => ?_, fun a b ha => ?_⟩
  · rw [e1] at hh; omega
  · rw [e2] at hk; omega
  · rw [e3] at hk; omega
  · rw [e1] at ha; omega
theorem RT_z : RT zg (fun _ _ => 0) := ⟨⟨rfl, rfl, rfl, rfl, rfl, rfl, rfl⟩, fun _ _ => rfl, fun _ _ => rfl, fun _ _ => rfl, fun _ _ => rfl, fun _ _ => rfl, fun _ _ => rfl, fun _ _ => rfl⟩
theorem v_begin : ∃ t1 g1 m1 m2, MX3_layOut zg 6 = some t1 ∧ MX1_startAsTold zg t1 = some g1 ∧ MX5_plain m0g = some m1 ∧ MX5_begin m1 = some m2 ∧ IVs zg t1 zg g1 g1 g1 m2 := by
  have hz : ∀ i j, (i = 0 → j ≠ 0 ∧ j ≠ 10) → m0g i j = nI 0 := fun i j h => by
    by_cases c : i = 0
    · subst c
      have := h rfl
      show (up2 (up2 zg 0 0 6) 0 10 1) 0 j = _
      rw [up2_n (by omega), up2_n (by omega)]; rfl
    · show (up2 (up2 zg 0 0 6) 0 10 1) i j = _
      rw [up2_r c, up2_r c]; rfl
  obtain ⟨t1, a1, a2⟩ : ∃ t1, MX3_layOut zg 6 = some t1 ∧ RT t1 T00 := p_layOut RT_z 6
  obtain ⟨g1, b1, b2⟩ := p_startS (gS := zg) a2 IT_00
  obtain ⟨m1, c1, c2, c3, c4, c5, c6, c7, c8⟩ := r_plain (mM := m0g)
  have M1 : RM m1 T00 := by
    refine ⟨⟨?_, ?_, ?_, ?_, ?_, ?_⟩, fun q hq => ?_, fun q hq => ?_, fun q hq => ?_, fun q hq => ?_, fun q hq => ?_, fun q hq => ?_, fun q hq => ?_⟩
    · rw [c8 0 0 (by decide) (by decide)]; rfl
    · rw [c3, T00_z 0 1 (by decide) (by decide)]
    · rw [c4, T00_z 0 2 (by decide) (by decide)]
    · rw [c5, T00_z 0 3 (by decide) (by decide)]
    · rw [c6, T00_z 0 4 (by decide) (by decide)]
    · rw [c7, T00_05]
    · rw [c2 q hq, T00_1]
    · rw [c8 _ _ (by decide) (by simp), hz _ _ (by simp), T00_z _ _ (by decide) (by simp)]
    · rw [c8 _ _ (by decide) (by simp), hz _ _ (by simp), T00_z _ _ (by decide) (by simp)]
    · rw [c8 _ _ (by decide) (by simp), hz _ _ (by simp), T00_z _ _ (by decide) (by simp)]
    · rw [c8 _ _ (by decide) (by simp), hz _ _ (by simp), T00_z _ _ (by decide) (by simp)]
    · rw [c8 _ _ (by decide) (by simp), hz _ _ (by simp), T00_z _ _ (by decide) (by simp)]
    · rw [c8 _ _ (by decide) (by simp), hz _ _ (by simp), T00_z _ _ (by decide) (by simp)]
  obtain ⟨m2, d1, d2, d3⟩ := r_begin M1 IT_00
  refine ⟨t1, g1, m1, m2, a1, b1, c1, d1, T00, Sx T00, fun _ _ => 0, fun _ _ => 0, fun _ _ => 0, 0, fun _ => 0, ⟨a2, IT_00, b2, IS_Sx IT_00, by simp [Sx], M1.fT (fun i j c => d2 i j (by unfold keyR at c; omega)), d3⟩, ?_, ?_, ?_, ?_⟩
  · exact ⟨rfl, by rw [d2 0 30 (by decide), c8 0 30 (by decide) (by decide)]; exact hz 0 30 (by decide), Nat.zero_le _, fun i hi => absurd hi (Nat.not_lt_zero _)⟩
  · exact ⟨false, rfl, by rw [d2 11 0 (by decide), c8 11 0 (by decide) (by decide)]; exact hz 11 0 (by decide), fun z => by cases z⟩
  · exact ⟨false, rfl, by rw [d2 11 1 (by decide), c8 11 1 (by decide) (by decide)]; exact hz 11 1 (by decide), fun z => by cases z⟩
  · exact ⟨rfl, by rw [d2 0 11 (by decide), c8 0 11 (by decide) (by decide)]; exact hz 0 11 (by decide), Nat.zero_le _, fun i hi => absurd hi (Nat.not_lt_zero _)⟩
