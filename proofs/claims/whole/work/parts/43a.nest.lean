/-! two words of nest mates ride in the start of a contract, not among its words (they aren't 'good' ones) -/
def nfW : Cond := .fieldLinkNest RX0 50 "NightPlots$Standing" "told" "LNightPlots$Told;" RX4
def nmW : Cond := .methodLinkNest RX4 183 yX0_reaches RX4
def pcN (av : List Value) (sz : Nat) (D : va_G) (Y : Nat → ClassId) (ws : va_W) : Array Value → State → Prop := fun a U => pcW av sz D Y ws a U ∧ va_Nw nfW U
def pcM (av : List Value) (sz : Nat) (D : va_G) (Y : Nat → ClassId) (ws : va_W) : Array Value → State → Prop := fun a U => pcW av sz D Y ws a U ∧ va_Nw nfW U ∧ va_Nw nmW U
theorem nfW_same {u U : State} (h : u.vm = U.vm) (hZ : va_Nw nfW u) : va_Nw nfW U := va_Nw.same rfl h hZ
theorem nmW_same {u U : State} (h : u.vm = U.vm) (hZ : va_Nw nmW u) : va_Nw nmW U := va_Nw.same rfl h hZ
theorem pcN_S {s : State} {H : Heap} {av As : List Value} {sz : Nat} {D : va_G} {Y : Nat → ClassId} {ws : va_W} (hN : va_Nw nfW s) (h : PreS s H (pcW av sz D Y ws) As) : PreS s H (pcN av sz D Y ws) As := ⟨fun a U g mk q => ⟨h.1 a U g mk q.1, nfW_same (u := U) (U := U.calling g mk a) rfl q.2⟩, fun U hU hW => ⟨h.2 U hU hW, va_Nw.warmF hW hN⟩⟩
theorem pcM_V {s : State} {H : Heap} {C : String} {b : Addr} {av As : List Value} {sz : Nat} {D : va_G} {Y : Nat → ClassId} {ws : va_W} (hN : va_Nw nfW s) (hM : va_Nw nmW s) (h : PreV s H C b (pcW av sz D Y ws) As) : PreV s H C b (pcM av sz D Y ws) As := ⟨fun a U g mk q => ⟨h.1 a U g mk q.1, nfW_same (u := U) (U := U.calling g mk a) rfl q.2.1, nmW_same (u := U) (U := U.calling g mk a) rfl q.2.2⟩, h.2.1, fun U hU hW => ⟨h.2.2 U hU hW, va_Nw.warmF hW hN, va_Nw.warmM hW hM⟩⟩
