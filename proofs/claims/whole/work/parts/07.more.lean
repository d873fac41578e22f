/-! places of a world's cells one by one; the class's own world, the search's -/
def Pick (ws : va_W) : List Nat → va_W → Prop
  | [], [] => True
  | i :: is, q :: qs => ws[i]? = some q ∧ Pick ws is qs
  | _, _ => False
theorem pc_nil {ws : va_W} : Pick ws [] [] := trivial
theorem pc_cons {ws : va_W} {i : Nat} {is : List Nat} {q : Nat × va_E} {qs : va_W} (h : ws[i]? = some q) (t : Pick ws is qs) : Pick ws (i :: is) (q :: qs) := ⟨h, t⟩
theorem pc_map {ws : va_W} : ∀ {is : List Nat} {qs : va_W}, Pick ws is qs → is.map (fun i => ws[i]?) = qs.map some
  | [], [], _ => rfl
  | i :: is, q :: qs, h => by
    rw [List.map_cons, List.map_cons, h.1, pc_map h.2]
  | [], _ :: _, h => h.elim
  | _ :: _, [], h => h.elim
abbrev cMain (Y : Nat → ClassId) (n : Nat → Nat) (uT uD uX uN uA uZ uW uP uK uL : Nat) (st : GS) : va_W := [(n 0, .inr (4, [.ref uT, .ref uD, .ref uX, .ref uN, .ref uA, .ref (n 1), .ref (n 2), .ref uZ, .ref uW, .ref uP, .ref (n 3), .ref (n 4), .ref (n 5), .int (st 0 13)])), (n 1, .inl (Y 3, 2, .inr (.inr (.inr (.inr (fun i => bif Nat.beq i 0 then some uK else some uL)))))), (n 2, .inl (Y 2, 2, .inl (st 2))), (n 3, .inl (Y 0, 8, .inl (st 3))), (n 4, .inl (Y 0, 8, .inl (st 4))), (n 5, .inl (Y 0, 8, .inl (st 5)))]
abbrev cSearch (Y : Nat → ClassId) (z : Nat → Nat) (uS : Nat) (st : GS) (dl : Nat → Int64) : va_W := [(z 0, .inr (0, [.ref uS, .ref (z 1), .ref (z 2), .int (st 0 3), .int (st 0 4), .int (st 0 5)])), (z 1, .inl (Y 4, 6, .inr (.inr (.inr (.inr (fun i => if i < 6 then some (z (3 + i)) else none)))))), (z 2, .inl (Y 1, 4096, .inr (.inl dl))), (z 3, .inl (Y 0, 8, .inl (st 1))), (z 4, .inl (Y 0, 8, .inl (st 2))), (z 5, .inl (Y 0, 8, .inl (st 3))), (z 6, .inl (Y 0, 8, .inl (st 4))), (z 7, .inl (Y 0, 8, .inl (st 5))), (z 8, .inl (Y 0, 8, .inl (st 6)))]
theorem in2 {i : Int32} (h : vp_in i 2) (h0 : ¬ i = 0) : i = 1 := by
  obtain ⟨j, hj, rfl⟩ := vp_in_of h (by decide)
  rcases (show j = 0 ∨ j = 1 by omega) with rfl | rfl
  · exact absurd rfl h0
  · rfl
section ALD
variable {p : Program} {l : Launch} {e : Env} {R : Room} {s : State} {m : MethodId} {args : Array Value} {below : List Frame} {meth : Method} {c : Code} {H : Heap} {locs : List Loc} {cells slots : Nat} {Q : State → Prop}
variable {cc : ByteArray} {pc : Nat} {ls : Array Slot} {rest : List Value} {D : va_G} {cl : List vw_C} {A : Nat → Prop} {a : Nat} {tys : List (ClassId × FieldType)} {ws : va_W} {H0 : Heap}
theorem va_ald1 (hexec : p.tables.exec = Jvm.exec) (hb : c.code = cc) (hK : va_K D cl tys s) (hP : va_P D cl ws H) (q0 t0 : Nat) {cA : ClassId} {C : String} {n : Nat} {f : Nat → Option Nat} (ha : ws[q0]? = some (a, .inl (cA, n, .inr (.inr (.inr (.inr f)))))) (ht : tys[t0]? = some (cA, .object C)) {i : Int32} (hin : vp_in i n) {v : Value} (hv : va_rf (f i.toNatClampNeg) = v) (hdg : decode cc pc = .ok (.aaload, 1))
    (kk : W p l e R s m args below meth c H locs cells slots Q (F0 m (pc + 1) ls (v :: rest))) : W p l e R s m args below meth c H locs cells slots Q (F0 m pc ls (.int i :: .ref a :: rest)) := by
  subst hv
  exact va_aldq hexec hb hK hP q0 t0 ha ht hin hdg kk
theorem va_ald2 (hexec : p.tables.exec = Jvm.exec) (hb : c.code = cc) (hK : va_K D cl tys s) (hP : va_P D cl ws H) (q0 t0 : Nat) {cA : ClassId} {ty : FieldType} {n : Nat} {f : Nat → Option Nat} (ha : ws[q0]? = some (a, .inl (cA, n, .inr (.inr (.inr (.inr f)))))) (ht : tys[t0]? = some (cA, .array ty)) {i : Int32} (hin : vp_in i n) {v : Value} (hv : va_rf (f i.toNatClampNeg) = v) (hdg : decode cc pc = .ok (.aaload, 1))
    (kk : W p l e R s m args below meth c H locs cells slots Q (F0 m (pc + 1) ls (v :: rest))) : W p l e R s m args below meth c H locs cells slots Q (F0 m pc ls (.int i :: .ref a :: rest)) := by
  subst hv
  have hlt : i.toNatClampNeg < n := Nat.not_le.mp fun q => hin (Or.inr q)
  exact W.aald (v := va_rf (f i.toNatClampNeg)) (ty := .array ty) hexec hb (hP q0 _ ha) ((hK.2 t0 _ ht).1 n (fun j => va_rf (f j))) rfl (fun q => by cases q) (by show ¬ (i < 0 ∨ (arrV _ _ _).slots.size ≤ _); rw [arrV_size]; exact hin) (by show (arrV _ _ _).slots[_]? = _; rw [arrV_read _ _ hlt]) rfl rfl hdg kk
end ALD
