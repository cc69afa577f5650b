/-! the stream, as a function of arrays -/
def rotI (x n : Int32) : Int32 := (x <<< (n &&& 31)) ||| ((x.toUInt32 >>> ((nI 32 - n).toUInt32 &&& Int32.toUInt32 31)).toInt32)
def AT (f : Nat → Int32) (a b d : Nat) (k : Int32) : Nat → Int32 := upd (upd f a (f a + f b)) d (rotI ((upd f a (f a + f b)) d ^^^ (upd f a (f a + f b)) a) k)
def QR (f : Nat → Int32) (a b c d : Nat) : Nat → Int32 := AT (AT (AT (AT f a b d (nI 16)) c d b (nI 12)) a b d (nI 8)) c d b (nI 7)
def DR (f : Nat → Int32) : Nat → Int32 := QR (QR (QR (QR (QR (QR (QR (QR f 0 4 8 12) 1 5 9 13) 2 6 10 14) 3 7 11 15) 0 5 10 15) 1 6 11 12) 2 7 8 13) 3 4 9 14
/-- the first n places of g written over f -/
def cpy16 : Nat → (Nat → Int32) → (Nat → Int32) → (Nat → Int32)
  | 0, _, f => f
  | n + 1, g, f => upd (cpy16 n g f) n (g n)
def DRn : Nat → (Nat → Int32) → (Nat → Int32)
  | 0, f => f
  | n + 1, f => DR (DRn n f)
/-- the first n places of f made more by g -/
def addN : Nat → (Nat → Int32) → (Nat → Int32) → (Nat → Int32)
  | 0, _, f => f
  | n + 1, g, f => upd (addN n g f) n (addN n g f n + g n)
def MB (i b : Nat → Int32) : Nat → Int32 := addN 16 i (DRn 10 (cpy16 16 i b))
/-- byte i of the block -/
def BB (f : Nat → Int32) (i : Nat) : Int32 := ((f (i / 4)).toUInt32 >>> ((nI (8 * (i % 4))).toUInt32 &&& Int32.toUInt32 31)).toInt32 &&& nI 255
