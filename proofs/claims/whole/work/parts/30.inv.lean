/-! ===== what a land is, in numbers; what class and reference hold of it ===== -/
/-- a land: heights, kinds, figures, places, verdicts, ranks; things, hidden, eyes, hour -/
abbrev LdN : Type := (Nat → Nat) × (Nat → Nat) × (Nat → Nat) × (Nat → Nat) × (Nat → Nat) × (Nat → Nat) × Nat × Nat × Nat × Nat
abbrev eH (L : LdN) : Nat → Nat := L.1
abbrev eK (L : LdN) : Nat → Nat := L.2.1
abbrev eF (L : LdN) : Nat → Nat := L.2.2.1
abbrev eC (L : LdN) : Nat → Nat := L.2.2.2.1
abbrev eV (L : LdN) : Nat → Nat := L.2.2.2.2.1
abbrev eQ (L : LdN) : Nat → Nat := L.2.2.2.2.2.1
abbrev eN (L : LdN) : Nat := L.2.2.2.2.2.2.1
abbrev eD (L : LdN) : Nat := L.2.2.2.2.2.2.2.1
abbrev eE (L : LdN) : Nat := L.2.2.2.2.2.2.2.2.1
abbrev eT (L : LdN) : Nat := L.2.2.2.2.2.2.2.2.2
/-- its numbers are small -/
def LdV (L : LdN) : Prop := (∀ c, eH L c ≤ 9) ∧ (∀ t, eK L t < 6) ∧ (∀ t, eF L t ≤ 9) ∧ (∀ t, eC L t < 16) ∧ (∀ k, eV L k ≤ 2) ∧ (∀ k, eQ L k ≤ 10) ∧ eN L ≤ 7 ∧ eD L < 128 ∧ eE L ≤ 16 ∧ eT L ≤ 4000
/-- the greatest height ahead of a cell -/
def mxH (h : Nat → Nat) : Nat → Nat
  | 0 => 0
  | c + 1 => max (mxH h c) (h c)
def rdg (h : Nat → Nat) (c : Nat) : Int32 := if c = 0 then -1 else nI (mxH h c)
/-- the class's Land holds it -/
def GR (g : LandT) (L : LdN) : Prop := (∀ c, c < 16 → gH g c = nI (eH L c)) ∧ (∀ c, c < 16 → gR g c = rdg (eH L) c) ∧ (∀ t, t < 7 → gK g t = nI (eK L t)) ∧ (∀ t, t < 7 → gF g t = nI (eF L t)) ∧ (∀ t, t < 7 → gP g t = nI (eC L t)) ∧ (∀ k, k < 6 → gV g k = nI (eV L k)) ∧ (∀ k, k < 6 → gQ g k = nI (eQ L k)) ∧ gN g = nI (eN L) ∧ gD g = nI (eD L) ∧ gE g = nI (eE L) ∧ gT g = nI (eT L)
/-- the reference's row holds it -/
def RR (r : Nat → Int32) (L : LdN) : Prop := r 0 = nI (eN L) ∧ r 1 = nI (eT L) ∧ r 2 = nI (eE L) ∧ r 3 = nI (eD L) ∧ (∀ c, c < 16 → r (4 + c) = nI (eH L c)) ∧ (∀ k, k < 6 → r (20 + k) = nI (eV L k)) ∧ (∀ k, k < 6 → r (26 + k) = nI (eQ L k)) ∧ (∀ t, t < 7 → r (32 + 3 * t) = nI (eK L t)) ∧ (∀ t, t < 7 → r (33 + 3 * t) = nI (eF L t)) ∧ (∀ t, t < 7 → r (34 + 3 * t) = nI (eC L t))
/-- a state that calls can come to: the hour is at most 999, ranks at most 9 -/
def LdS (L : LdN) : Prop := LdV L ∧ eT L ≤ 999
/-- class and reference agree -/
def Inv (yn yk : LandT) (yl : Nat → Int32) (yt : Int32) (yu ye : Nat → Int32) (yc yh : Int32) (xs xi : Nat → Int32) (xh : Int32) (xl xr xe : Nat → Int32) (xn xo : Int32) : Prop :=
  (∃ L, LdS L ∧ GR yn L ∧ RR xs L) ∧ ((yh = 0 ∧ xh = 0) ∨ (yh = 1 ∧ xh = 1 ∧ ∃ L, LdS L ∧ GR yk L ∧ RR xi L)) ∧ (∃ k, k ≤ 96 ∧ yt = nI k ∧ xn = nI k ∧ ∀ j, j < k → ∃ v, v < 256 ∧ yl j = nI v ∧ xl j = nI v) ∧ (∃ k, k ≤ 16 ∧ yc = nI k ∧ xo = nI k ∧ ∀ j, j < k → ∃ v, v < 100 ∧ yu j = nI v ∧ xr j = nI v) ∧ (∀ j, j < 7 → ye j = xe j)
