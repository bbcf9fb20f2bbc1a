/-! ===== the worlds of the system's objects, and the words of the functions ===== -/
abbrev ob (i : Int32) (n : Nat) : Prop := i < 0 ∨ n ≤ i.toNatClampNeg
abbrev irem (x y : Int32) : Int32 := x - x / y * y
abbrev lrem (x y : Int64) : Int64 := x - x / y * y
abbrev imax (x y : Int32) : Int32 := if x < y then y else x
abbrev imin (x y : Int32) : Int32 := if y < x then y else x
abbrev iush (x y : Int32) : Int32 := (x.toUInt32 >>> (y.toUInt32 &&& Int32.toUInt32 31)).toInt32
/-- a Land: heights, ridges, kinds, figures, places, verdicts, ranks; things, hidden, eyes, hour -/
abbrev LandT : Type := (Nat → Int32) × (Nat → Int32) × (Nat → Int32) × (Nat → Int32) × (Nat → Int32) × (Nat → Int32) × (Nat → Int32) × Int32 × Int32 × Int32 × Int32
abbrev gH (g : LandT) : Nat → Int32 := g.1
abbrev gR (g : LandT) : Nat → Int32 := g.2.1
abbrev gK (g : LandT) : Nat → Int32 := g.2.2.1
abbrev gF (g : LandT) : Nat → Int32 := g.2.2.2.1
abbrev gP (g : LandT) : Nat → Int32 := g.2.2.2.2.1
abbrev gV (g : LandT) : Nat → Int32 := g.2.2.2.2.2.1
abbrev gQ (g : LandT) : Nat → Int32 := g.2.2.2.2.2.2.1
abbrev gN (g : LandT) : Int32 := g.2.2.2.2.2.2.2.1
abbrev gD (g : LandT) : Int32 := g.2.2.2.2.2.2.2.2.1
abbrev gE (g : LandT) : Int32 := g.2.2.2.2.2.2.2.2.2.1
abbrev gT (g : LandT) : Int32 := g.2.2.2.2.2.2.2.2.2.2
def wAr (cI : ClassId) (a n : Nat) (f : Nat → Int32) : va_W := [(a, .inl (cI, n, .inl f))]
def wLd (cI : ClassId) (ad : Nat → Nat) (g : LandT) : va_W := [(ad 0, .inr (0, [.ref (ad 1), .ref (ad 2), .ref (ad 3), .ref (ad 4), .ref (ad 5), .ref (ad 6), .ref (ad 7), .int (gN g), .int (gD g), .int (gE g), .int (gT g)])), (ad 1, .inl (cI, 16, .inl (gH g))), (ad 2, .inl (cI, 16, .inl (gR g))), (ad 3, .inl (cI, 7, .inl (gK g))), (ad 4, .inl (cI, 7, .inl (gF g))), (ad 5, .inl (cI, 7, .inl (gP g))), (ad 6, .inl (cI, 6, .inl (gV g))), (ad 7, .inl (cI, 6, .inl (gQ g)))]
def wLt (cI : ClassId) (ad : Nat → Nat) (yl : Nat → Int32) (yt : Int32) : va_W := [(ad 0, .inr (1, [.ref (ad 1), .int yt])), (ad 1, .inl (cI, 96, .inl yl))]
def wLo (ad : Nat → Nat) (yd : Int32) : va_W := [(ad 0, .inr (2, [.int yd]))]
def wMn (cI cJ cQ : ClassId) (ad : Nat → Nat) (yn ym yk : LandT) (yl : Nat → Int32) (yt yd : Int32) (yu ye yv : Nat → Int32) (yo : Nat → Int64) (y0 y1 : Nat → Int32) (yc yh : Int32) : va_W := [(ad 0, .inr (3, [.ref (ad 1), .ref (ad 9), .ref (ad 17), .ref (ad 25), .ref (ad 27), .ref (ad 28), .ref (ad 29), .ref (ad 30), .ref (ad 31), .ref (ad 32), .int yc, .int yh])),
  (ad 1, .inr (0, [.ref (ad 2), .ref (ad 3), .ref (ad 4), .ref (ad 5), .ref (ad 6), .ref (ad 7), .ref (ad 8), .int (gN yn), .int (gD yn), .int (gE yn), .int (gT yn)])), (ad 2, .inl (cI, 16, .inl (gH yn))), (ad 3, .inl (cI, 16, .inl (gR yn))), (ad 4, .inl (cI, 7, .inl (gK yn))), (ad 5, .inl (cI, 7, .inl (gF yn))), (ad 6, .inl (cI, 7, .inl (gP yn))), (ad 7, .inl (cI, 6, .inl (gV yn))), (ad 8, .inl (cI, 6, .inl (gQ yn))),
  (ad 9, .inr (0, [.ref (ad 10), .ref (ad 11), .ref (ad 12), .ref (ad 13), .ref (ad 14), .ref (ad 15), .ref (ad 16), .int (gN ym), .int (gD ym), .int (gE ym), .int (gT ym)])), (ad 10, .inl (cI, 16, .inl (gH ym))), (ad 11, .inl (cI, 16, .inl (gR ym))), (ad 12, .inl (cI, 7, .inl (gK ym))), (ad 13, .inl (cI, 7, .inl (gF ym))), (ad 14, .inl (cI, 7, .inl (gP ym))), (ad 15, .inl (cI, 6, .inl (gV ym))), (ad 16, .inl (cI, 6, .inl (gQ ym))),
  (ad 17, .inr (0, [.ref (ad 18), .ref (ad 19), .ref (ad 20), .ref (ad 21), .ref (ad 22), .ref (ad 23), .ref (ad 24), .int (gN yk), .int (gD yk), .int (gE yk), .int (gT yk)])), (ad 18, .inl (cI, 16, .inl (gH yk))), (ad 19, .inl (cI, 16, .inl (gR yk))), (ad 20, .inl (cI, 7, .inl (gK yk))), (ad 21, .inl (cI, 7, .inl (gF yk))), (ad 22, .inl (cI, 7, .inl (gP yk))), (ad 23, .inl (cI, 6, .inl (gV yk))), (ad 24, .inl (cI, 6, .inl (gQ yk))),
  (ad 25, .inr (1, [.ref (ad 26), .int yt])), (ad 26, .inl (cI, 96, .inl yl)), (ad 27, .inr (2, [.int yd])), (ad 28, .inl (cI, 16, .inl yu)), (ad 29, .inl (cI, 7, .inl ye)), (ad 30, .inl (cI, 10, .inl yv)), (ad 31, .inl (cJ, 8, .inr (.inl yo))), (ad 32, .inl (cQ, 2, .inr (.inr (.inr (.inr (fun i => if i = 0 then some (ad 33) else some (ad 34))))))), (ad 33, .inl (cI, 2, .inl y0)), (ad 34, .inl (cI, 2, .inl y1))]
def wMd (cI : ClassId) (ad : Nat → Nat) (xs xm xi xw : Nat → Int32) (xh : Int32) (xl xr xe : Nat → Int32) (xn xo xp : Int32) (xu : Nat → Int32) (xd : Int32) : va_W := [(ad 0, .inr (4, [.ref (ad 1), .ref (ad 2), .ref (ad 3), .ref (ad 4), .int xh, .ref (ad 5), .ref (ad 6), .ref (ad 7), .int xn, .int xo, .int xp, .ref (ad 8), .int xd])), (ad 1, .inl (cI, 53, .inl xs)), (ad 2, .inl (cI, 53, .inl xm)), (ad 3, .inl (cI, 53, .inl xi)), (ad 4, .inl (cI, 53, .inl xw)), (ad 5, .inl (cI, 96, .inl xl)), (ad 6, .inl (cI, 16, .inl xr)), (ad 7, .inl (cI, 7, .inl xe)), (ad 8, .inl (cI, 3, .inl xu))]
