/-! ===== all together: what holds between two calls ===== -/
def IVs (nS tT xT gN gK gL mM : GS) : Prop := ∃ (T S Q K0 K1 : NN) (L : Nat) (Bt : Nat → Nat), BV tT gN mM T S ∧ SV nS mM T Q ∧ KV nS mM gK T 0 K0 ∧ KV nS mM gL T 1 K1 ∧ TV xT mM L Bt
section
variable {nS tT xT gN gK gL mM : GS}
theorem IVs.fF {m' : GS} (h : IVs nS tT xT gN gK gL mM) (f : fFs mM m') : IVs nS tT xT gN gK gL m' := by
  obtain ⟨T, S, Q, K0, K1, L, Bt, h1, h2, h3, h4, h5⟩ := h
  exact ⟨T, S, Q, K0, K1, L, Bt, h1.fF f, h2.fC f.1, h3.fC f.1, h4.fC f.1, h5.fC f.1⟩
theorem BV.fr {tT gN g g' : GS} {T S : NN} (h : BV tT gN g T S) (f : ∀ i j, keyR i j → g' i j = g i j) (e : ∀ j, g' 8 j = g 8 j) : BV tT gN g' T S := by
  obtain ⟨hT, hI, hR, hS, hNb, hM, hN⟩ := h
  exact ⟨hT, hI, hR, hS, hNb, hM.fT f, hN.row hI fun j _ => e j⟩
theorem SV.fr {nS n' g g' : GS} {T Q : NN} (h : SV nS g T Q) (a : n' 0 13 = nS 0 13) (a3 : n' 3 = nS 3) (a4 : n' 4 = nS 4) (a5 : n' 5 = nS 5) (b : g' 0 30 = g 0 30) (c : ∀ j, g' 12 j = g 12 j) : SV n' g' T Q := by
  obtain ⟨h1, h2, h3, h4⟩ := h
  exact ⟨a.trans h1, b.trans h2, h3, fun i hi => by rw [a3, a4, a5, c, c, c]; exact h4 i hi⟩
theorem KV.fr {nS n' g g' gK : GS} {T K : NN} {k : Nat} (h : KV nS g gK T k K) (a : n' 2 = nS 2) (b : ∀ j, g' 10 j = g 10 j) (c : ∀ j, g' 11 j = g 11 j) : KV n' g' gK T k K := by
  obtain ⟨v, h1, h2, h3⟩ := h
  refine ⟨v, by rw [a]; exact h1, by rw [c]; exact h2, fun z => ?_⟩
  obtain ⟨q1, q2, q3, q4⟩ := h3 z
  refine ⟨q1, q2, q3, ?_⟩
  unfold img at q4 ⊢
  simp only [b]
  exact q4
theorem TV.fr {xT g g' : GS} {L : Nat} {Bt : Nat → Nat} (h : TV xT g L Bt) (a : g' 0 11 = g 0 11) (b : ∀ j, g' 6 j = g 6 j) : TV xT g' L Bt := ⟨h.1, a.trans h.2.1, h.2.2.1, fun i hi => ⟨(h.2.2.2 i hi).1, (b i).trans (h.2.2.2 i hi).2.1, (h.2.2.2 i hi).2.2⟩⟩
theorem v_fault (h : IVs nS tT xT gN gK gL mM) (tD : GS) (tk : Int64) : ∃ r tD' xT' m' tk', MX4_fault tT tD xT = some (r, tD', xT') ∧ MX5_fault mM tk = some (r, m', tk') ∧ IVs nS tT xT' gN gK gL m' := by
  obtain ⟨T, S, Q, K0, K1, L, Bt, h1, h2, h3, h4, h5⟩ := h
  obtain ⟨r, tD', xT', m', tk', e1, e2, f, e3⟩ := f_fault (tD := tD) h1 h5 tk
  exact ⟨r, tD', xT', m', tk', e1, e2, T, S, Q, K0, K1, L, Bt, h1.fF f, h2.fC f.1, h3.fC f.1, h4.fC f.1, e3⟩
theorem v_green (h : IVs nS tT xT gN gK gL mM) (tD : GS) (tk : Int64) : ∃ r nS' tT' tD' xT' gN' m' tk', MX4_green nS tT tD xT gN = some (r, nS', tT', tD', xT', gN') ∧ MX5_green mM tk = some (r, m', tk') ∧ IVs nS' tT' xT' gN' gK gL m' := by
  obtain ⟨T, S, Q, K0, K1, L, Bt, h1, h2, h3, h4, h5⟩ := h
  obtain ⟨r, nS', tT', tD', xT', gN', m', tk', T', S', Q', K0', K1', L', Bt', e1, e2, e3⟩ := f_green (tD := tD) h1 h2 h3 h4 h5 tk
  exact ⟨r, nS', tT', tD', xT', gN', m', tk', e1, e2, T', S', Q', K0', K1', L', Bt', e3⟩
theorem v_write (h : IVs nS tT xT gN gK gL mM) (i1 : Int64) (i2 : Int32) : ∃ r xT' m', MX4_write xT i1 i2 = some (r, xT') ∧ MX5_write mM i1 i2 = some (r, m') ∧ IVs nS tT xT' gN gK gL m' := by
  obtain ⟨T, S, Q, K0, K1, L, Bt, h1, h2, h3, h4, h5⟩ := h
  obtain ⟨r, xT', m', L', Bt', e1, e2, e3, f⟩ := f_write h5 i1 i2
  refine ⟨r, xT', m', e1, e2, T, S, Q, K0, K1, L', Bt', h1.fr (fun i j c => f i j (by unfold keyR at c; omega) (by unfold keyR at c; omega)) (fun j => f 8 j (by decide) (by simp)), h2.fr rfl rfl rfl rfl (f 0 30 (by decide) (by decide)) (fun j => f 12 j (by decide) (by simp)), h3.fr rfl (fun j => f 10 j (by decide) (by simp)) (fun j => f 11 j (by decide) (by simp)), h4.fr rfl (fun j => f 10 j (by decide) (by simp)) (fun j => f 11 j (by decide) (by simp)), e3⟩
theorem v_erase (h : IVs nS tT xT gN gK gL mM) : ∃ r xT' m', MX4_erase xT = some (r, xT') ∧ MX5_erase mM = some (r, m') ∧ IVs nS tT xT' gN gK gL m' := by
  obtain ⟨T, S, Q, K0, K1, L, Bt, h1, h2, h3, h4, h5⟩ := h
  obtain ⟨r, xT', m', L', e1, e2, e3, f⟩ := f_erase h5
  refine ⟨r, xT', m', e1, e2, T, S, Q, K0, K1, L', Bt, h1.fr (fun i j c => f i j (by unfold keyR at c; omega)) (fun j => f 8 j (by simp)), h2.fr rfl rfl rfl rfl (f 0 30 (by decide)) (fun j => f 12 j (by simp)), h3.fr rfl (fun j => f 10 j (by simp)) (fun j => f 11 j (by simp)), h4.fr rfl (fun j => f 10 j (by simp)) (fun j => f 11 j (by simp)), e3⟩
theorem v_plot (h : IVs nS tT xT gN gK gL mM) (i1 i2 : Int32) : ∃ r, MX4_plot tT gN i1 i2 = some r ∧ MX5_plot mM i1 i2 = some r := by
  obtain ⟨T, S, Q, K0, K1, L, Bt, h1, h2⟩ := h
  exact f_plot h1 i1 i2
theorem v_house (h : IVs nS tT xT gN gK gL mM) (i1 i2 : Int32) : ∃ r, MX4_house tT gN i1 i2 = some r ∧ MX5_house mM i1 i2 = some r := by
  obtain ⟨T, S, Q, K0, K1, L, Bt, h1, h2⟩ := h
  exact f_house h1 i1 i2
theorem v_touch (h : IVs nS tT xT gN gK gL mM) (i1 i2 i3 : Int32) : ∃ r, MX4_touch tT gN i1 i2 i3 = some r ∧ MX5_touch mM i1 i2 i3 = some r := by
  obtain ⟨T, S, Q, K0, K1, L, Bt, h1, h2⟩ := h
  exact f_touch h1 i1 i2 i3
theorem v_count (h : IVs nS tT xT gN gK gL mM) (i1 : Int32) : ∃ r, MX4_count nS tT xT gN i1 = some r ∧ MX5_count mM i1 = some r := by
  obtain ⟨T, S, Q, K0, K1, L, Bt, h1, h2, h3, h4, h5⟩ := h
  exact f_count h1 h2 h5 i1
theorem v_as (h : IVs nS tT xT gN gK gL mM) (fW : Nat → Int32) (i1 i2 : Int32) : ∃ r fW' m', MX4_as tT gN fW i1 i2 = some (r, fW') ∧ MX5_as mM i1 i2 = some (r, m') ∧ IVs nS tT xT gN gK gL m' := by
  have h' := h
  obtain ⟨T, S, Q, K0, K1, L, Bt, h1, h2⟩ := h'
  obtain ⟨r, fW', m', e1, e2, f⟩ := f_as h1 fW i1 i2
  exact ⟨r, fW', m', e1, e2, h.fF f⟩
theorem v_can (h : IVs nS tT xT gN gK gL mM) (fW : Nat → Int32) (i1 i2 : Int32) : ∃ r fW' m', MX4_can tT gN fW i1 i2 = some (r, fW') ∧ MX5_can mM i1 i2 = some (r, m') ∧ IVs nS tT xT gN gK gL m' := by
  have h' := h
  obtain ⟨T, S, Q, K0, K1, L, Bt, h1, h2⟩ := h'
  obtain ⟨r, fW', m', e1, e2, f⟩ := f_can h1 fW i1 i2
  exact ⟨r, fW', m', e1, e2, h.fF f⟩
theorem v_go (h : IVs nS tT xT gN gK gL mM) (fN : Nat → Int32) (i1 : Int32) : ∃ r gN' fN' m', MX4_go tT gN fN i1 = some (r, gN', fN') ∧ MX5_go mM i1 = some (r, m') ∧ IVs nS tT xT gN' gK gL m' := by
  obtain ⟨T, S, Q, K0, K1, L, Bt, h1, h2, h3, h4, h5⟩ := h
  obtain ⟨r, gN', fN', m', S', e1, e2, e3, f⟩ := f_go h1 fN i1
  exact ⟨r, gN', fN', m', e1, e2, T, S', Q, K0, K1, L, Bt, e3, h2.fC f, h3.fC f, h4.fC f, h5.fC f⟩
theorem v_roll (h : IVs nS tT xT gN gK gL mM) (fN : Nat → Int32) (i1 i2 : Int32) : ∃ r gN' fN' m', MX4_roll tT gN fN i1 i2 = some (r, gN', fN') ∧ MX5_roll mM i1 i2 = some (r, m') ∧ IVs nS tT xT gN' gK gL m' := by
  obtain ⟨T, S, Q, K0, K1, L, Bt, h1, h2, h3, h4, h5⟩ := h
  obtain ⟨r, gN', fN', m', S', e1, e2, e3, f⟩ := f_roll h1 fN i1 i2
  exact ⟨r, gN', fN', m', e1, e2, T, S', Q, K0, K1, L, Bt, e3, h2.fC f, h3.fC f, h4.fC f, h5.fC f⟩
theorem v_keep (h : IVs nS tT xT gN gK gL mM) (i1 : Int32) : ∃ r nS' gK' gL' m', MX4_keep nS gN gK gL i1 = some (r, nS', gK', gL') ∧ MX5_keep mM i1 = some (r, m') ∧ IVs nS' tT xT gN gK' gL' m' := by
  obtain ⟨T, S, Q, K0, K1, L, Bt, h1, h2, h3, h4, h5⟩ := h
  obtain ⟨r, nS', gK', gL', m', K0', K1', e1, e2, e3, e4, fn, f⟩ := f_keep h1 h3 h4 i1
  exact ⟨r, nS', gK', gL', m', e1, e2, T, S, Q, K0', K1', L, Bt, h1.fr (fun i j c => f i j (by unfold keyR at c; omega) (by unfold keyR at c; omega)) (fun j => f 8 j (by decide) (by decide)), h2.fr (fn 0 13 (by decide)) (funext fun j => fn 3 j (by decide)) (funext fun j => fn 4 j (by decide)) (funext fun j => fn 5 j (by decide)) (f 0 30 (by decide) (by decide)) (fun j => f 12 j (by decide) (by decide)), e3, e4, h5.fr (f 0 11 (by decide) (by decide)) (fun j => f 6 j (by decide) (by decide))⟩
theorem v_back (h : IVs nS tT xT gN gK gL mM) (i1 : Int32) : ∃ r gN' m', MX4_back nS gN gK gL i1 = some (r, gN') ∧ MX5_back mM i1 = some (r, m') ∧ IVs nS tT xT gN' gK gL m' := by
  obtain ⟨T, S, Q, K0, K1, L, Bt, h1, h2, h3, h4, h5⟩ := h
  obtain ⟨r, gN', m', S', e1, e2, e3, f⟩ := f_back h1 h3 h4 i1
  exact ⟨r, gN', m', e1, e2, T, S', Q, K0, K1, L, Bt, e3, h2.fC f, h3.fC f, h4.fC f, h5.fC f⟩
theorem v_seen (h : IVs nS tT xT gN gK gL mM) (i1 i2 i3 : Int32) : ∃ r nS' m', MX4_seen nS tT i1 i2 i3 = some (r, nS') ∧ MX5_seen mM i1 i2 i3 = some (r, m') ∧ IVs nS' tT xT gN gK gL m' := by
  obtain ⟨T, S, Q, K0, K1, L, Bt, h1, h2, h3, h4, h5⟩ := h
  obtain ⟨r, nS', m', Q', e1, e2, e3, fn, f⟩ := f_seen h1 h2 i1 i2 i3
  exact ⟨r, nS', m', e1, e2, T, S, Q', K0, K1, L, Bt, h1.fr (fun i j c => f i j (by unfold keyR at c; omega) (by unfold keyR at c; omega)) (fun j => f 8 j (by decide) (by simp)), e3, h3.fr fn (fun j => f 10 j (by decide) (by simp)) (fun j => f 11 j (by decide) (by simp)), h4.fr fn (fun j => f 10 j (by decide) (by simp)) (fun j => f 11 j (by decide) (by simp)), h5.fr (f 0 11 (by decide) (by decide)) (fun j => f 6 j (by decide) (by simp))⟩
theorem v_forget (h : IVs nS tT xT gN gK gL mM) : ∃ r nS' m', MX4_forget nS = some (r, nS') ∧ MX5_forget mM = some (r, m') ∧ IVs nS' tT xT gN gK gL m' := by
  obtain ⟨T, S, Q, K0, K1, L, Bt, h1, h2, h3, h4, h5⟩ := h
  obtain ⟨r, nS', m', Q', e1, e2, e3, fn, f⟩ := f_forget h2
  exact ⟨r, nS', m', e1, e2, T, S, Q', K0, K1, L, Bt, h1.fr (fun i j c => f i j (by unfold keyR at c; omega)) (fun j => f 8 j (by simp)), e3, h3.fr fn (fun j => f 10 j (by simp)) (fun j => f 11 j (by simp)), h4.fr fn (fun j => f 10 j (by simp)) (fun j => f 11 j (by simp)), h5.fr (f 0 11 (by decide)) (fun j => f 6 j (by simp))⟩
theorem v_later (h : IVs nS tT xT gN gK gL mM) (gA : GS) (fA : Nat → Int32) (i1 i2 : Int32) : ∃ r gA' fA' m', MX4_later tT gN gA fA i1 i2 = some (r, gA', fA') ∧ MX5_later mM i1 i2 = some (r, m') ∧ IVs nS tT xT gN gK gL m' := by
  have h' := h
  obtain ⟨T, S, Q, K0, K1, L, Bt, h1, h2⟩ := h'
  obtain ⟨r, gA', fA', m', e1, e2, f⟩ := f_later h1 gA fA i1 i2
  exact ⟨r, gA', fA', m', e1, e2, h.fF f⟩
theorem v_round (h : IVs nS tT xT gN gK gL mM) (gA : GS) (fA : Nat → Int32) (lP : Nat → Int64) (i1 : Int32) : ∃ r gA' fA' lP' m', MX4_round tT gN gA fA lP i1 = some (r, gA', fA', lP') ∧ MX5_round mM i1 = some (r, m') ∧ IVs nS tT xT gN gK gL m' := by
  have h' := h
  obtain ⟨T, S, Q, K0, K1, L, Bt, h1, h2⟩ := h'
  obtain ⟨r, gA', fA', lP', m', e1, e2, f⟩ := f_round h1 gA fA lP i1
  exact ⟨r, gA', fA', lP', m', e1, e2, h.fF f⟩
theorem v_when (h : IVs nS tT xT gN gK gL mM) (gA : GS) (fA : Nat → Int32) (i1 i2 i3 : Int32) : ∃ r gA' fA' m', MX4_when tT gN gA fA i1 i2 i3 = some (r, gA', fA') ∧ MX5_when mM i1 i2 i3 = some (r, m') ∧ IVs nS tT xT gN gK gL m' := by
  have h' := h
  obtain ⟨T, S, Q, K0, K1, L, Bt, h1, h2⟩ := h'
  obtain ⟨r, gA', fA', m', e1, e2, f⟩ := f_when h1 gA fA i1 i2 i3
  exact ⟨r, gA', fA', m', e1, e2, h.fF f⟩
theorem v_often (h : IVs nS tT xT gN gK gL mM) (gA : GS) (fA : Nat → Int32) (i1 i2 i3 i4 : Int32) : ∃ r gA' fA' m', MX4_often tT gN gA fA i1 i2 i3 i4 = some (r, gA', fA') ∧ MX5_often mM i1 i2 i3 i4 = some (r, m') ∧ IVs nS tT xT gN gK gL m' := by
  have h' := h
  obtain ⟨T, S, Q, K0, K1, L, Bt, h1, h2⟩ := h'
  obtain ⟨r, gA', fA', m', e1, e2, f⟩ := f_often h1 gA fA i1 i2 i3 i4
  exact ⟨r, gA', fA', m', e1, e2, h.fF f⟩
theorem v_brings (h : IVs nS tT xT gN gK gL mM) (gA : GS) (fA : Nat → Int32) (i1 i2 : Int32) : ∃ r gA' fA' m', MX4_brings tT gN gA fA i1 i2 = some (r, gA', fA') ∧ MX5_brings mM i1 i2 = some (r, m') ∧ IVs nS tT xT gN gK gL m' := by
  have h' := h
  obtain ⟨T, S, Q, K0, K1, L, Bt, h1, h2⟩ := h'
  obtain ⟨r, gA', fA', m', e1, e2, f⟩ := f_brings h1 gA fA i1 i2
  exact ⟨r, gA', fA', m', e1, e2, h.fF f⟩
theorem v_feuding (h : IVs nS tT xT gN gK gL mM) (gA : GS) (fA : Nat → Int32) (i1 : Int32) : ∃ r gA' fA' m', MX4_feuding tT gN gA fA i1 = some (r, gA', fA') ∧ MX5_feuding mM i1 = some (r, m') ∧ IVs nS tT xT gN gK gL m' := by
  have h' := h
  obtain ⟨T, S, Q, K0, K1, L, Bt, h1, h2⟩ := h'
  obtain ⟨r, gA', fA', m', e1, e2, f⟩ := f_feuding h1 gA fA i1
  exact ⟨r, gA', fA', m', e1, e2, h.fF f⟩
theorem v_nearest (h : IVs nS tT xT gN gK gL mM) (gA zZ : GS) (lZ : Nat → Int64) (i1 i2 i3 : Int32) : ∃ r gA' zZ' lZ' m', MX4_nearest tT gN gA zZ lZ i1 i2 i3 = some (r, gA', zZ', lZ') ∧ MX5_nearest mM i1 i2 i3 = some (r, m') ∧ IVs nS tT xT gN gK gL m' := by
  have h' := h
  obtain ⟨T, S, Q, K0, K1, L, Bt, h1, h2⟩ := h'
  obtain ⟨r, gA', zZ', lZ', m', e1, e2, f⟩ := f_nearest h1 gA zZ lZ i1 i2 i3
  exact ⟨r, gA', zZ', lZ', m', e1, e2, h.fF f⟩
theorem v_mends (h : IVs nS tT xT gN gK gL mM) (gA : GS) (fA : Nat → Int32) (i1 i2 i3 i4 : Int32) : ∃ r gA' fA' m', MX4_mends tT gN gA fA i1 i2 i3 i4 = some (r, gA', fA') ∧ MX5_mends mM i1 i2 i3 i4 = some (r, m') ∧ IVs nS tT xT gN gK gL m' := by
  have h' := h
  obtain ⟨T, S, Q, K0, K1, L, Bt, h1, h2⟩ := h'
  obtain ⟨r, gA', fA', m', e1, e2, f⟩ := f_mends h1 gA fA i1 i2 i3 i4
  exact ⟨r, gA', fA', m', e1, e2, h.fF f⟩
end
theorem v_laws {nS tT xT gN gK gL mM : GS} (h : IVs nS tT xT gN gK gL mM) (gA : GS) (fA : Nat → Int32) : ∃ r gA' fA' m', MX4_laws nS tT gA fA = some (r, gA', fA') ∧ MX5_laws mM = some (r, m') ∧ IVs nS tT xT gN gK gL m' := by
  have h' := h
  obtain ⟨T, S, Q, K0, K1, L, Bt, h1, h2, h3⟩ := h'
  obtain ⟨gA', fA', e1⟩ := c_laws h1 h2 gA fA
  obtain ⟨m', e2, f⟩ := r_laws h1 h2
  exact ⟨_, gA', fA', m', e1, e2, h.fF f⟩
