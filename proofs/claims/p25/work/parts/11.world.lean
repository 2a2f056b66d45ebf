/-- arrays in a family: place k of array i becomes x -/
def ups (a : Nat → Nat → Int32) (i k : Nat) (x : Int32) : Nat → Nat → Int32 := fun j => bif Nat.beq j i then upd (a i) k x else a j
/-- array i becomes f -/
def upa (a : Nat → Nat → Int32) (i : Nat) (f : Nat → Int32) : Nat → Nat → Int32 := fun j => bif Nat.beq j i then f else a j
/-- scalar i becomes x -/
def ug (g : Nat → Int32) (i : Nat) (x : Int32) : Nat → Int32 := fun j => bif Nat.beq j i then x else g j
def cw (E : En) (ad : Nat → Nat) (fl : Nat) (g : Nat → Int32) (a : Nat → Nat → Int32) (v : Nat → Int64) (tl : va_W) : va_W :=
  (ad 0, .inl (E.2.2.1, fl, .inl (a 13))) ::
  (ad 1, .inl (E.2.2.1, 5, .inl (a 12))) ::
  (ad 2, .inl (E.2.2.1, 2048, .inl (a 11))) ::
  (ad 3, .inl (E.2.2.2, 8000, .inr (.inl v))) ::
  (ad 4, .inr (2, [.ref (ad 3), .ref (ad 2), .ref (ad 1), .int (g 10), .int (g 11), .int (g 12), .int (g 13), .int (g 14), .ref (ad 0), .int (g 15), .int (g 16)])) ::
  (ad 5, .inl (E.2.2.1, 8, .inl (a 10))) ::
  (ad 6, .inl (E.2.2.1, 8, .inl (a 9))) ::
  (ad 7, .inr (0, [.ref (ad 18), .int (g 9), .ref (ad 6), .ref (ad 5)])) ::
  (ad 8, .inl (E.2.2.1, 256, .inl (a 8))) ::
  (ad 9, .inl (E.2.2.1, 64, .inl (a 7))) ::
  (ad 10, .inl (E.2.2.1, 24, .inl (a 6))) ::
  (ad 11, .inl (E.2.2.1, 8, .inl (a 5))) ::
  (ad 12, .inl (E.2.2.1, 96, .inl (a 4))) ::
  (ad 13, .inr (3, [.ref (ad 18), .int (g 4), .int (g 5), .int (g 6), .int (g 7), .int (g 8), .ref (ad 12), .ref (ad 11), .ref (ad 10), .ref (ad 9), .ref (ad 8)])) ::
  (ad 14, .inl (E.2.2.1, 8, .inl (a 3))) ::
  (ad 15, .inl (E.2.2.1, 192, .inl (a 2))) ::
  (ad 16, .inl (E.2.2.1, 192, .inl (a 1))) ::
  (ad 17, .inl (E.2.2.1, 192, .inl (a 0))) ::
  (ad 18, .inr (1, [.int (g 0), .int (g 1), .int (g 2), .int (g 3), .ref (ad 17), .ref (ad 16), .ref (ad 15), .ref (ad 14)])) ::
  (ad 19, .inr (4, [.ref (ad 18), .ref (ad 13), .ref (ad 7), .ref (ad 4)])) ::
  tl
def mw (E : En) (ad : Nat → Nat) (g : Nat → Int32) (a : Nat → Nat → Int32) (v : Nat → Int64) (tl : va_W) : va_W :=
  (ad 0, .inl (E.2.2.1, 8000, .inl (a 13))) ::
  (ad 1, .inl (E.2.2.1, 16384, .inl (a 15))) ::
  (ad 2, .inl (E.2.2.1, 8000, .inl (a 14))) ::
  (ad 3, .inl (E.2.2.1, 8000, .inl (a 12))) ::
  (ad 4, .inl (E.2.2.2, 8000, .inr (.inl v))) ::
  (ad 5, .inl (E.2.2.1, 9, .inl (a 11))) ::
  (ad 6, .inl (E.2.2.1, 8, .inl (a 8))) ::
  (ad 7, .inl (E.2.2.1, 8, .inl (a 6))) ::
  (ad 8, .inl (E.2.2.1, 64, .inl (a 7))) ::
  (ad 9, .inl (E.2.2.1, 8, .inl (a 10))) ::
  (ad 10, .inl (E.2.2.1, 8, .inl (a 9))) ::
  (ad 11, .inl (E.2.2.1, 8, .inl (a 5))) ::
  (ad 12, .inl (E.2.2.1, 96, .inl (a 4))) ::
  (ad 13, .inl (E.2.2.1, 8, .inl (a 3))) ::
  (ad 14, .inl (E.2.2.1, 192, .inl (a 2))) ::
  (ad 15, .inl (E.2.2.1, 192, .inl (a 1))) ::
  (ad 16, .inl (E.2.2.1, 192, .inl (a 0))) ::
  (ad 17, .inr (5, [.int (g 0), .int (g 1), .int (g 2), .ref (ad 16), .ref (ad 15), .ref (ad 14), .ref (ad 13), .int (g 3), .int (g 4), .int (g 5), .int (g 6), .int (g 8), .int (g 9), .ref (ad 12), .ref (ad 11), .ref (ad 10), .ref (ad 9), .ref (ad 8), .ref (ad 7), .ref (ad 6), .ref (ad 5), .ref (ad 4), .ref (ad 3), .ref (ad 2), .ref (ad 1), .int (g 14), .int (g 15), .ref (ad 0), .int (g 16)])) ::
  tl
