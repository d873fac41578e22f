def jn0 {β : Type} (k : Option β) (b : (Option β) → Option β) : Option β := b k
theorem jn0_at {β : Type} {k : Option β} {b : (Option β) → Option β} {r : β} {G : Prop} (P : Prop) (h : jn0 k b = some r) (hJ : k  = some r → P ) (hB : ∀ k' : Option β, (k'  = some r → P ) → b k' = some r → G) : G := hB k hJ h
def lq0 {β : Type} (f : (Option β) → Option β) : Nat → Option β
  | 0 => none
  | n + 1 => f (lq0 f n) 
theorem lq0_at {β : Type} {f : (Option β) → Option β} {r : β} (P : Prop) (hs : ∀ (rec : Option β), (rec  = some r → P ) → f rec  = some r → P ) : ∀ (n : Nat), lq0 f n  = some r → P  := by
  intro n
  induction n with
  | zero => intro  h; cases h
  | succ n ih => intro  h; exact hs (lq0 f n)  ih h
def bnd0 {β : Type} (o : Option Unit) (k : Option β) : Option β := match o with
  | none => none
  | some _ => k
theorem bnd0_at {β : Type} {o : Option Unit} {k : Option β} {r : β} (h : bnd0 o k = some r) : o = some () ∧ k = some r := by
  cases o with
  | none => cases h
  | some a => exact ⟨rfl, h⟩
def jn1 {A1 β : Type} (k : A1 → Option β) (b : (A1 → Option β) → Option β) : Option β := b k
theorem jn1_at {A1 β : Type} {k : A1 → Option β} {b : (A1 → Option β) → Option β} {r : β} {G : Prop} (P : A1 → Prop) (h : jn1 k b = some r) (hJ : ∀ (a1 : A1), k a1 = some r → P a1) (hB : ∀ k' : A1 → Option β, (∀ (a1 : A1), k' a1 = some r → P a1) → b k' = some r → G) : G := hB k hJ h
def lq1 {A1 β : Type} (f : (A1 → Option β) → A1 → Option β) : Nat → A1 → Option β
  | 0 => fun _ => none
  | n + 1 => fun a1 => f (lq1 f n) a1
theorem lq1_at {A1 β : Type} {f : (A1 → Option β) → A1 → Option β} {r : β} (P : A1 → Prop) (hs : ∀ (rec : A1 → Option β) (a1 : A1), (∀ (a1 : A1), rec a1 = some r → P a1) → f rec a1 = some r → P a1) : ∀ (n : Nat) (a1 : A1), lq1 f n a1 = some r → P a1 := by
  intro n
  induction n with
  | zero => intro a1 h; cases h
  | succ n ih => intro a1 h; exact hs (lq1 f n) a1 ih h
def bnd1 {A1 β : Type} (o : Option (A1)) (k : A1 → Option β) : Option β := match o with
  | none => none
  | some (a1) => k a1
theorem bnd1_at {A1 β : Type} {o : Option (A1)} {k : A1 → Option β} {r : β} (h : bnd1 o k = some r) : ∃ (a1 : A1), o = some (a1) ∧ k a1 = some r := by
  cases o with
  | none => cases h
  | some q => exact ⟨q, rfl, h⟩
def jn2 {A1 A2 β : Type} (k : A1 → A2 → Option β) (b : (A1 → A2 → Option β) → Option β) : Option β := b k
theorem jn2_at {A1 A2 β : Type} {k : A1 → A2 → Option β} {b : (A1 → A2 → Option β) → Option β} {r : β} {G : Prop} (P : A1 → A2 → Prop) (h : jn2 k b = some r) (hJ : ∀ (a1 : A1) (a2 : A2), k a1 a2 = some r → P a1 a2) (hB : ∀ k' : A1 → A2 → Option β, (∀ (a1 : A1) (a2 : A2), k' a1 a2 = some r → P a1 a2) → b k' = some r → G) : G := hB k hJ h
def lq2 {A1 A2 β : Type} (f : (A1 → A2 → Option β) → A1 → A2 → Option β) : Nat → A1 → A2 → Option β
  | 0 => fun _ _ => none
  | n + 1 => fun a1 a2 => f (lq2 f n) a1 a2
theorem lq2_at {A1 A2 β : Type} {f : (A1 → A2 → Option β) → A1 → A2 → Option β} {r : β} (P : A1 → A2 → Prop) (hs : ∀ (rec : A1 → A2 → Option β) (a1 : A1) (a2 : A2), (∀ (a1 : A1) (a2 : A2), rec a1 a2 = some r → P a1 a2) → f rec a1 a2 = some r → P a1 a2) : ∀ (n : Nat) (a1 : A1) (a2 : A2), lq2 f n a1 a2 = some r → P a1 a2 := by
  intro n
  induction n with
  | zero => intro a1 a2 h; cases h
  | succ n ih => intro a1 a2 h; exact hs (lq2 f n) a1 a2 ih h
def bnd2 {A1 A2 β : Type} (o : Option (A1 × A2)) (k : A1 → A2 → Option β) : Option β := match o with
  | none => none
  | some (a1, a2) => k a1 a2
theorem bnd2_at {A1 A2 β : Type} {o : Option (A1 × A2)} {k : A1 → A2 → Option β} {r : β} (h : bnd2 o k = some r) : ∃ (a1 : A1) (a2 : A2), o = some (a1, a2) ∧ k a1 a2 = some r := by
  cases o with
  | none => cases h
  | some q => exact ⟨q.1, q.2, rfl, h⟩
def jn3 {A1 A2 A3 β : Type} (k : A1 → A2 → A3 → Option β) (b : (A1 → A2 → A3 → Option β) → Option β) : Option β := b k
theorem jn3_at {A1 A2 A3 β : Type} {k : A1 → A2 → A3 → Option β} {b : (A1 → A2 → A3 → Option β) → Option β} {r : β} {G : Prop} (P : A1 → A2 → A3 → Prop) (h : jn3 k b = some r) (hJ : ∀ (a1 : A1) (a2 : A2) (a3 : A3), k a1 a2 a3 = some r → P a1 a2 a3) (hB : ∀ k' : A1 → A2 → A3 → Option β, (∀ (a1 : A1) (a2 : A2) (a3 : A3), k' a1 a2 a3 = some r → P a1 a2 a3) → b k' = some r → G) : G := hB k hJ h
def lq3 {A1 A2 A3 β : Type} (f : (A1 → A2 → A3 → Option β) → A1 → A2 → A3 → Option β) : Nat → A1 → A2 → A3 → Option β
  | 0 => fun _ _ _ => none
  | n + 1 => fun a1 a2 a3 => f (lq3 f n) a1 a2 a3
theorem lq3_at {A1 A2 A3 β : Type} {f : (A1 → A2 → A3 → Option β) → A1 → A2 → A3 → Option β} {r : β} (P : A1 → A2 → A3 → Prop) (hs : ∀ (rec : A1 → A2 → A3 → Option β) (a1 : A1) (a2 : A2) (a3 : A3), (∀ (a1 : A1) (a2 : A2) (a3 : A3), rec a1 a2 a3 = some r → P a1 a2 a3) → f rec a1 a2 a3 = some r → P a1 a2 a3) : ∀ (n : Nat) (a1 : A1) (a2 : A2) (a3 : A3), lq3 f n a1 a2 a3 = some r → P a1 a2 a3 := by
  intro n
  induction n with
  | zero => intro a1 a2 a3 h; cases h
  | succ n ih => intro a1 a2 a3 h; exact hs (lq3 f n) a1 a2 a3 ih h
def bnd3 {A1 A2 A3 β : Type} (o : Option (A1 × A2 × A3)) (k : A1 → A2 → A3 → Option β) : Option β := match o with
  | none => none
  | some (a1, a2, a3) => k a1 a2 a3
theorem bnd3_at {A1 A2 A3 β : Type} {o : Option (A1 × A2 × A3)} {k : A1 → A2 → A3 → Option β} {r : β} (h : bnd3 o k = some r) : ∃ (a1 : A1) (a2 : A2) (a3 : A3), o = some (a1, a2, a3) ∧ k a1 a2 a3 = some r := by
  cases o with
  | none => cases h
  | some q => exact ⟨q.1, q.2.1, q.2.2, rfl, h⟩
def jn4 {A1 A2 A3 A4 β : Type} (k : A1 → A2 → A3 → A4 → Option β) (b : (A1 → A2 → A3 → A4 → Option β) → Option β) : Option β := b k
theorem jn4_at {A1 A2 A3 A4 β : Type} {k : A1 → A2 → A3 → A4 → Option β} {b : (A1 → A2 → A3 → A4 → Option β) → Option β} {r : β} {G : Prop} (P : A1 → A2 → A3 → A4 → Prop) (h : jn4 k b = some r) (hJ : ∀ (a1 : A1) (a2 : A2) (a3 : A3) (a4 : A4), k a1 a2 a3 a4 = some r → P a1 a2 a3 a4) (hB : ∀ k' : A1 → A2 → A3 → A4 → Option β, (∀ (a1 : A1) (a2 : A2) (a3 : A3) (a4 : A4), k' a1 a2 a3 a4 = some r → P a1 a2 a3 a4) → b k' = some r → G) : G := hB k hJ h
def lq4 {A1 A2 A3 A4 β : Type} (f : (A1 → A2 → A3 → A4 → Option β) → A1 → A2 → A3 → A4 → Option β) : Nat → A1 → A2 → A3 → A4 → Option β
  | 0 => fun _ _ _ _ => none
  | n + 1 => fun a1 a2 a3 a4 => f (lq4 f n) a1 a2 a3 a4
theorem lq4_at {A1 A2 A3 A4 β : Type} {f : (A1 → A2 → A3 → A4 → Option β) → A1 → A2 → A3 → A4 → Option β} {r : β} (P : A1 → A2 → A3 → A4 → Prop) (hs : ∀ (rec : A1 → A2 → A3 → A4 → Option β) (a1 : A1) (a2 : A2) (a3 : A3) (a4 : A4), (∀ (a1 : A1) (a2 : A2) (a3 : A3) (a4 : A4), rec a1 a2 a3 a4 = some r → P a1 a2 a3 a4) → f rec a1 a2 a3 a4 = some r → P a1 a2 a3 a4) : ∀ (n : Nat) (a1 : A1) (a2 : A2) (a3 : A3) (a4 : A4), lq4 f n a1 a2 a3 a4 = some r → P a1 a2 a3 a4 := by
  intro n
  induction n with
  | zero => intro a1 a2 a3 a4 h; cases h
  | succ n ih => intro a1 a2 a3 a4 h; exact hs (lq4 f n) a1 a2 a3 a4 ih h
def bnd4 {A1 A2 A3 A4 β : Type} (o : Option (A1 × A2 × A3 × A4)) (k : A1 → A2 → A3 → A4 → Option β) : Option β := match o with
  | none => none
  | some (a1, a2, a3, a4) => k a1 a2 a3 a4
theorem bnd4_at {A1 A2 A3 A4 β : Type} {o : Option (A1 × A2 × A3 × A4)} {k : A1 → A2 → A3 → A4 → Option β} {r : β} (h : bnd4 o k = some r) : ∃ (a1 : A1) (a2 : A2) (a3 : A3) (a4 : A4), o = some (a1, a2, a3, a4) ∧ k a1 a2 a3 a4 = some r := by
  cases o with
  | none => cases h
  | some q => exact ⟨q.1, q.2.1, q.2.2.1, q.2.2.2, rfl, h⟩
def jn5 {A1 A2 A3 A4 A5 β : Type} (k : A1 → A2 → A3 → A4 → A5 → Option β) (b : (A1 → A2 → A3 → A4 → A5 → Option β) → Option β) : Option β := b k
theorem jn5_at {A1 A2 A3 A4 A5 β : Type} {k : A1 → A2 → A3 → A4 → A5 → Option β} {b : (A1 → A2 → A3 → A4 → A5 → Option β) → Option β} {r : β} {G : Prop} (P : A1 → A2 → A3 → A4 → A5 → Prop) (h : jn5 k b = some r) (hJ : ∀ (a1 : A1) (a2 : A2) (a3 : A3) (a4 : A4) (a5 : A5), k a1 a2 a3 a4 a5 = some r → P a1 a2 a3 a4 a5) (hB : ∀ k' : A1 → A2 → A3 → A4 → A5 → Option β, (∀ (a1 : A1) (a2 : A2) (a3 : A3) (a4 : A4) (a5 : A5), k' a1 a2 a3 a4 a5 = some r → P a1 a2 a3 a4 a5) → b k' = some r → G) : G := hB k hJ h
def lq5 {A1 A2 A3 A4 A5 β : Type} (f : (A1 → A2 → A3 → A4 → A5 → Option β) → A1 → A2 → A3 → A4 → A5 → Option β) : Nat → A1 → A2 → A3 → A4 → A5 → Option β
  | 0 => fun _ _ _ _ _ => none
  | n + 1 => fun a1 a2 a3 a4 a5 => f (lq5 f n) a1 a2 a3 a4 a5
theorem lq5_at {A1 A2 A3 A4 A5 β : Type} {f : (A1 → A2 → A3 → A4 → A5 → Option β) → A1 → A2 → A3 → A4 → A5 → Option β} {r : β} (P : A1 → A2 → A3 → A4 → A5 → Prop) (hs : ∀ (rec : A1 → A2 → A3 → A4 → A5 → Option β) (a1 : A1) (a2 : A2) (a3 : A3) (a4 : A4) (a5 : A5), (∀ (a1 : A1) (a2 : A2) (a3 : A3) (a4 : A4) (a5 : A5), rec a1 a2 a3 a4 a5 = some r → P a1 a2 a3 a4 a5) → f rec a1 a2 a3 a4 a5 = some r → P a1 a2 a3 a4 a5) : ∀ (n : Nat) (a1 : A1) (a2 : A2) (a3 : A3) (a4 : A4) (a5 : A5), lq5 f n a1 a2 a3 a4 a5 = some r → P a1 a2 a3 a4 a5 := by
  intro n
  induction n with
  | zero => intro a1 a2 a3 a4 a5 h; cases h
  | succ n ih => intro a1 a2 a3 a4 a5 h; exact hs (lq5 f n) a1 a2 a3 a4 a5 ih h
def bnd5 {A1 A2 A3 A4 A5 β : Type} (o : Option (A1 × A2 × A3 × A4 × A5)) (k : A1 → A2 → A3 → A4 → A5 → Option β) : Option β := match o with
  | none => none
  | some (a1, a2, a3, a4, a5) => k a1 a2 a3 a4 a5
theorem bnd5_at {A1 A2 A3 A4 A5 β : Type} {o : Option (A1 × A2 × A3 × A4 × A5)} {k : A1 → A2 → A3 → A4 → A5 → Option β} {r : β} (h : bnd5 o k = some r) : ∃ (a1 : A1) (a2 : A2) (a3 : A3) (a4 : A4) (a5 : A5), o = some (a1, a2, a3, a4, a5) ∧ k a1 a2 a3 a4 a5 = some r := by
  cases o with
  | none => cases h
  | some q => exact ⟨q.1, q.2.1, q.2.2.1, q.2.2.2.1, q.2.2.2.2, rfl, h⟩
def jn6 {A1 A2 A3 A4 A5 A6 β : Type} (k : A1 → A2 → A3 → A4 → A5 → A6 → Option β) (b : (A1 → A2 → A3 → A4 → A5 → A6 → Option β) → Option β) : Option β := b k
theorem jn6_at {A1 A2 A3 A4 A5 A6 β : Type} {k : A1 → A2 → A3 → A4 → A5 → A6 → Option β} {b : (A1 → A2 → A3 → A4 → A5 → A6 → Option β) → Option β} {r : β} {G : Prop} (P : A1 → A2 → A3 → A4 → A5 → A6 → Prop) (h : jn6 k b = some r) (hJ : ∀ (a1 : A1) (a2 : A2) (a3 : A3) (a4 : A4) (a5 : A5) (a6 : A6), k a1 a2 a3 a4 a5 a6 = some r → P a1 a2 a3 a4 a5 a6) (hB : ∀ k' : A1 → A2 → A3 → A4 → A5 → A6 → Option β, (∀ (a1 : A1) (a2 : A2) (a3 : A3) (a4 : A4) (a5 : A5) (a6 : A6), k' a1 a2 a3 a4 a5 a6 = some r → P a1 a2 a3 a4 a5 a6) → b k' = some r → G) : G := hB k hJ h
def lq6 {A1 A2 A3 A4 A5 A6 β : Type} (f : (A1 → A2 → A3 → A4 → A5 → A6 → Option β) → A1 → A2 → A3 → A4 → A5 → A6 → Option β) : Nat → A1 → A2 → A3 → A4 → A5 → A6 → Option β
  | 0 => fun _ _ _ _ _ _ => none
  | n + 1 => fun a1 a2 a3 a4 a5 a6 => f (lq6 f n) a1 a2 a3 a4 a5 a6
theorem lq6_at {A1 A2 A3 A4 A5 A6 β : Type} {f : (A1 → A2 → A3 → A4 → A5 → A6 → Option β) → A1 → A2 → A3 → A4 → A5 → A6 → Option β} {r : β} (P : A1 → A2 → A3 → A4 → A5 → A6 → Prop) (hs : ∀ (rec : A1 → A2 → A3 → A4 → A5 → A6 → Option β) (a1 : A1) (a2 : A2) (a3 : A3) (a4 : A4) (a5 : A5) (a6 : A6), (∀ (a1 : A1) (a2 : A2) (a3 : A3) (a4 : A4) (a5 : A5) (a6 : A6), rec a1 a2 a3 a4 a5 a6 = some r → P a1 a2 a3 a4 a5 a6) → f rec a1 a2 a3 a4 a5 a6 = some r → P a1 a2 a3 a4 a5 a6) : ∀ (n : Nat) (a1 : A1) (a2 : A2) (a3 : A3) (a4 : A4) (a5 : A5) (a6 : A6), lq6 f n a1 a2 a3 a4 a5 a6 = some r → P a1 a2 a3 a4 a5 a6 := by
  intro n
  induction n with
  | zero => intro a1 a2 a3 a4 a5 a6 h; cases h
  | succ n ih => intro a1 a2 a3 a4 a5 a6 h; exact hs (lq6 f n) a1 a2 a3 a4 a5 a6 ih h
def bnd6 {A1 A2 A3 A4 A5 A6 β : Type} (o : Option (A1 × A2 × A3 × A4 × A5 × A6)) (k : A1 → A2 → A3 → A4 → A5 → A6 → Option β) : Option β := match o with
  | none => none
  | some (a1, a2, a3, a4, a5, a6) => k a1 a2 a3 a4 a5 a6
theorem bnd6_at {A1 A2 A3 A4 A5 A6 β : Type} {o : Option (A1 × A2 × A3 × A4 × A5 × A6)} {k : A1 → A2 → A3 → A4 → A5 → A6 → Option β} {r : β} (h : bnd6 o k = some r) : ∃ (a1 : A1) (a2 : A2) (a3 : A3) (a4 : A4) (a5 : A5) (a6 : A6), o = some (a1, a2, a3, a4, a5, a6) ∧ k a1 a2 a3 a4 a5 a6 = some r := by
  cases o with
  | none => cases h
  | some q => exact ⟨q.1, q.2.1, q.2.2.1, q.2.2.2.1, q.2.2.2.2.1, q.2.2.2.2.2, rfl, h⟩
def jn7 {A1 A2 A3 A4 A5 A6 A7 β : Type} (k : A1 → A2 → A3 → A4 → A5 → A6 → A7 → Option β) (b : (A1 → A2 → A3 → A4 → A5 → A6 → A7 → Option β) → Option β) : Option β := b k
theorem jn7_at {A1 A2 A3 A4 A5 A6 A7 β : Type} {k : A1 → A2 → A3 → A4 → A5 → A6 → A7 → Option β} {b : (A1 → A2 → A3 → A4 → A5 → A6 → A7 → Option β) → Option β} {r : β} {G : Prop} (P : A1 → A2 → A3 → A4 → A5 → A6 → A7 → Prop) (h : jn7 k b = some r) (hJ : ∀ (a1 : A1) (a2 : A2) (a3 : A3) (a4 : A4) (a5 : A5) (a6 : A6) (a7 : A7), k a1 a2 a3 a4 a5 a6 a7 = some r → P a1 a2 a3 a4 a5 a6 a7) (hB : ∀ k' : A1 → A2 → A3 → A4 → A5 → A6 → A7 → Option β, (∀ (a1 : A1) (a2 : A2) (a3 : A3) (a4 : A4) (a5 : A5) (a6 : A6) (a7 : A7), k' a1 a2 a3 a4 a5 a6 a7 = some r → P a1 a2 a3 a4 a5 a6 a7) → b k' = some r → G) : G := hB k hJ h
def lq7 {A1 A2 A3 A4 A5 A6 A7 β : Type} (f : (A1 → A2 → A3 → A4 → A5 → A6 → A7 → Option β) → A1 → A2 → A3 → A4 → A5 → A6 → A7 → Option β) : Nat → A1 → A2 → A3 → A4 → A5 → A6 → A7 → Option β
  | 0 => fun _ _ _ _ _ _ _ => none
  | n + 1 => fun a1 a2 a3 a4 a5 a6 a7 => f (lq7 f n) a1 a2 a3 a4 a5 a6 a7
theorem lq7_at {A1 A2 A3 A4 A5 A6 A7 β : Type} {f : (A1 → A2 → A3 → A4 → A5 → A6 → A7 → Option β) → A1 → A2 → A3 → A4 → A5 → A6 → A7 → Option β} {r : β} (P : A1 → A2 → A3 → A4 → A5 → A6 → A7 → Prop) (hs : ∀ (rec : A1 → A2 → A3 → A4 → A5 → A6 → A7 → Option β) (a1 : A1) (a2 : A2) (a3 : A3) (a4 : A4) (a5 : A5) (a6 : A6) (a7 : A7), (∀ (a1 : A1) (a2 : A2) (a3 : A3) (a4 : A4) (a5 : A5) (a6 : A6) (a7 : A7), rec a1 a2 a3 a4 a5 a6 a7 = some r → P a1 a2 a3 a4 a5 a6 a7) → f rec a1 a2 a3 a4 a5 a6 a7 = some r → P a1 a2 a3 a4 a5 a6 a7) : ∀ (n : Nat) (a1 : A1) (a2 : A2) (a3 : A3) (a4 : A4) (a5 : A5) (a6 : A6) (a7 : A7), lq7 f n a1 a2 a3 a4 a5 a6 a7 = some r → P a1 a2 a3 a4 a5 a6 a7 := by
  intro n
  induction n with
  | zero => intro a1 a2 a3 a4 a5 a6 a7 h; cases h
  | succ n ih => intro a1 a2 a3 a4 a5 a6 a7 h; exact hs (lq7 f n) a1 a2 a3 a4 a5 a6 a7 ih h
def bnd7 {A1 A2 A3 A4 A5 A6 A7 β : Type} (o : Option (A1 × A2 × A3 × A4 × A5 × A6 × A7)) (k : A1 → A2 → A3 → A4 → A5 → A6 → A7 → Option β) : Option β := match o with
  | none => none
  | some (a1, a2, a3, a4, a5, a6, a7) => k a1 a2 a3 a4 a5 a6 a7
theorem bnd7_at {A1 A2 A3 A4 A5 A6 A7 β : Type} {o : Option (A1 × A2 × A3 × A4 × A5 × A6 × A7)} {k : A1 → A2 → A3 → A4 → A5 → A6 → A7 → Option β} {r : β} (h : bnd7 o k = some r) : ∃ (a1 : A1) (a2 : A2) (a3 : A3) (a4 : A4) (a5 : A5) (a6 : A6) (a7 : A7), o = some (a1, a2, a3, a4, a5, a6, a7) ∧ k a1 a2 a3 a4 a5 a6 a7 = some r := by
  cases o with
  | none => cases h
  | some q => exact ⟨q.1, q.2.1, q.2.2.1, q.2.2.2.1, q.2.2.2.2.1, q.2.2.2.2.2.1, q.2.2.2.2.2.2, rfl, h⟩
def jn8 {A1 A2 A3 A4 A5 A6 A7 A8 β : Type} (k : A1 → A2 → A3 → A4 → A5 → A6 → A7 → A8 → Option β) (b : (A1 → A2 → A3 → A4 → A5 → A6 → A7 → A8 → Option β) → Option β) : Option β := b k
theorem jn8_at {A1 A2 A3 A4 A5 A6 A7 A8 β : Type} {k : A1 → A2 → A3 → A4 → A5 → A6 → A7 → A8 → Option β} {b : (A1 → A2 → A3 → A4 → A5 → A6 → A7 → A8 → Option β) → Option β} {r : β} {G : Prop} (P : A1 → A2 → A3 → A4 → A5 → A6 → A7 → A8 → Prop) (h : jn8 k b = some r) (hJ : ∀ (a1 : A1) (a2 : A2) (a3 : A3) (a4 : A4) (a5 : A5) (a6 : A6) (a7 : A7) (a8 : A8), k a1 a2 a3 a4 a5 a6 a7 a8 = some r → P a1 a2 a3 a4 a5 a6 a7 a8) (hB : ∀ k' : A1 → A2 → A3 → A4 → A5 → A6 → A7 → A8 → Option β, (∀ (a1 : A1) (a2 : A2) (a3 : A3) (a4 : A4) (a5 : A5) (a6 : A6) (a7 : A7) (a8 : A8), k' a1 a2 a3 a4 a5 a6 a7 a8 = some r → P a1 a2 a3 a4 a5 a6 a7 a8) → b k' = some r → G) : G := hB k hJ h
def lq8 {A1 A2 A3 A4 A5 A6 A7 A8 β : Type} (f : (A1 → A2 → A3 → A4 → A5 → A6 → A7 → A8 → Option β) → A1 → A2 → A3 → A4 → A5 → A6 → A7 → A8 → Option β) : Nat → A1 → A2 → A3 → A4 → A5 → A6 → A7 → A8 → Option β
  | 0 => fun _ _ _ _ _ _ _ _ => none
  | n + 1 => fun a1 a2 a3 a4 a5 a6 a7 a8 => f (lq8 f n) a1 a2 a3 a4 a5 a6 a7 a8
theorem lq8_at {A1 A2 A3 A4 A5 A6 A7 A8 β : Type} {f : (A1 → A2 → A3 → A4 → A5 → A6 → A7 → A8 → Option β) → A1 → A2 → A3 → A4 → A5 → A6 → A7 → A8 → Option β} {r : β} (P : A1 → A2 → A3 → A4 → A5 → A6 → A7 → A8 → Prop) (hs : ∀ (rec : A1 → A2 → A3 → A4 → A5 → A6 → A7 → A8 → Option β) (a1 : A1) (a2 : A2) (a3 : A3) (a4 : A4) (a5 : A5) (a6 : A6) (a7 : A7) (a8 : A8), (∀ (a1 : A1) (a2 : A2) (a3 : A3) (a4 : A4) (a5 : A5) (a6 : A6) (a7 : A7) (a8 : A8), rec a1 a2 a3 a4 a5 a6 a7 a8 = some r → P a1 a2 a3 a4 a5 a6 a7 a8) → f rec a1 a2 a3 a4 a5 a6 a7 a8 = some r → P a1 a2 a3 a4 a5 a6 a7 a8) : ∀ (n : Nat) (a1 : A1) (a2 : A2) (a3 : A3) (a4 : A4) (a5 : A5) (a6 : A6) (a7 : A7) (a8 : A8), lq8 f n a1 a2 a3 a4 a5 a6 a7 a8 = some r → P a1 a2 a3 a4 a5 a6 a7 a8 := by
  intro n
  induction n with
  | zero => intro a1 a2 a3 a4 a5 a6 a7 a8 h; cases h
  | succ n ih => intro a1 a2 a3 a4 a5 a6 a7 a8 h; exact hs (lq8 f n) a1 a2 a3 a4 a5 a6 a7 a8 ih h
def bnd8 {A1 A2 A3 A4 A5 A6 A7 A8 β : Type} (o : Option (A1 × A2 × A3 × A4 × A5 × A6 × A7 × A8)) (k : A1 → A2 → A3 → A4 → A5 → A6 → A7 → A8 → Option β) : Option β := match o with
  | none => none
  | some (a1, a2, a3, a4, a5, a6, a7, a8) => k a1 a2 a3 a4 a5 a6 a7 a8
theorem bnd8_at {A1 A2 A3 A4 A5 A6 A7 A8 β : Type} {o : Option (A1 × A2 × A3 × A4 × A5 × A6 × A7 × A8)} {k : A1 → A2 → A3 → A4 → A5 → A6 → A7 → A8 → Option β} {r : β} (h : bnd8 o k = some r) : ∃ (a1 : A1) (a2 : A2) (a3 : A3) (a4 : A4) (a5 : A5) (a6 : A6) (a7 : A7) (a8 : A8), o = some (a1, a2, a3, a4, a5, a6, a7, a8) ∧ k a1 a2 a3 a4 a5 a6 a7 a8 = some r := by
  cases o with
  | none => cases h
  | some q => exact ⟨q.1, q.2.1, q.2.2.1, q.2.2.2.1, q.2.2.2.2.1, q.2.2.2.2.2.1, q.2.2.2.2.2.2.1, q.2.2.2.2.2.2.2, rfl, h⟩
