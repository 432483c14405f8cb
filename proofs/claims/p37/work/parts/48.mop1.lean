def mTurnQ (r : Nat → Nat → Int32) (f : Nat → Int32) (n : Nat) (x1 x2 x3 : Int32) : gRF × Int32 :=
  if mIn x1 (nI 0) (nI 5) then (if mIn x2 (nI 0) (nI 7) then (if mIn x3 (nI 0) (nI 4) then
    (if mRest r f (cN x1) then ((r, upF f 0 (nI 3)), nI 0) else if mVal r n (nI 0) x2 (-1) = x3 then ((r, upF f 0 (nI 3)), nI 0) else if f 4 = nI 200 then ((r, upF f 0 (nI 3)), nI 0)
      else ((mMakeR r f n x1 (nI 0) x2 x3, upF (upF f 0 (nI 0)) 4 (f 4 + nI 1)), f 4 + nI 1 - nI 1))
    else ((r, upF f 0 (nI 2)), nI 0)) else ((r, upF f 0 (nI 1)), nI 0)) else ((r, upF f 0 (nI 1)), nI 0)
def mRollQ (r : Nat → Nat → Int32) (f : Nat → Int32) (n k : Nat) (x1 x2 x3 : Int32) : gRF × Int32 :=
  if mIn x1 (nI 0) (nI 5) then (if mIn x2 (nI 0) (nI 3) then (if mIn x3 (nI 0) (f 2 - nI 1) then
    (if mRest r f (cN x1) then ((r, upF f 0 (nI 2)), nI 0) else if mVal r n (nI 1) x2 (-1) = x3 then ((r, upF f 0 (nI 2)), nI 0) else if f 4 = nI 200 then ((r, upF f 0 (nI 2)), nI 0)
      else if mHeld r f n k (cN x2) x3 then ((r, upF f 0 (nI 2)), nI 0)
      else ((mMakeR r f n x1 (nI 1) x2 x3, upF (upF f 0 (nI 0)) 4 (f 4 + nI 1)), f 4 + nI 1 - nI 1))
    else ((r, upF f 0 (nI 1)), nI 0)) else ((r, upF f 0 (nI 1)), nI 0)) else ((r, upF f 0 (nI 1)), nI 0)
def mRevQ (r : Nat → Nat → Int32) (f : Nat → Int32) (n : Nat) (x1 x2 : Int32) : gRF × Int32 :=
  if mIn x1 (nI 0) (nI 5) then (if mIn x2 (nI 0) (f 4 - nI 1) then
    (if mRest r f (cN x1) then ((r, upF f 0 (nI 2)), nI 0) else if mLatest r n (r 5 (cN x2)) (r 6 (cN x2)) (-1) = x2 then (if f 4 = nI 200 then ((r, upF f 0 (nI 2)), nI 0)
      else ((mMakeR r f n x1 (r 5 (cN x2)) (r 6 (cN x2)) (mVal r n (r 5 (cN x2)) (r 6 (cN x2)) x2), upF (upF f 0 (nI 0)) 4 (f 4 + nI 1)), f 4 + nI 1 - nI 1)) else ((r, upF f 0 (nI 2)), nI 0))
    else ((r, upF f 0 (nI 1)), nI 0)) else ((r, upF f 0 (nI 1)), nI 0)
def mTakeQ (r : Nat → Nat → Int32) (f : Nat → Int32) (t : Nat) (x : Int32) : gRF × Int32 :=
  if mIn x (nI 0) (nI 5) then (if r 9 (t / 14) = x then ((r, upF f 0 (nI 2)), nI 0) else if r 9 (t / 14 + 1) = x then ((r, upF f 0 (nI 2)), nI 0) else ((upR r 9 (upd (r 9) (t / 14 + 1) x), upF f 0 (nI 0)), r 9 (t / 14 + 1)))
  else ((r, upF f 0 (nI 1)), nI 0)
def mDefR (r : Nat → Nat → Int32) (d : Nat) (x1 x2 : Int32) (x3 : Bool) : Nat → Nat → Int32 := upR (upR (upR r 1 (upd (r 1) d x1)) 2 (upd (r 2) d x2)) 3 (upd (r 3) d (b2i x3))
def mDefQ (r : Nat → Nat → Int32) (f : Nat → Int32) (d : Nat) (x1 x2 : Int32) (x3 : Bool) : gRF × Int32 :=
  if mIn x1 (nI 0) (f 2 - nI 1) then (if x2 = -1 then (if f 3 = nI 24 then ((r, upF f 0 (nI 2)), nI 0) else ((mDefR r d x1 x2 x3, upF (upF f 0 (nI 0)) 3 (f 3 + nI 1)), f 3 + nI 1))
    else if mIn x2 (nI 0) (nI 7) then (if f 3 = nI 24 then ((r, upF f 0 (nI 2)), nI 0) else ((mDefR r d x1 x2 x3, upF (upF f 0 (nI 0)) 3 (f 3 + nI 1)), f 3 + nI 1)) else ((r, upF f 0 (nI 1)), nI 0))
  else ((r, upF f 0 (nI 1)), nI 0)
def mNdV (r : Nat → Nat → Int32) (x1 x2 : Int32) (x3 : Bool) : Int32 := if x3 then (r 0 (cN x1)) ||| (nI 1 <<< (x2 &&& 31)) else (r 0 (cN x1)) &&& ((nI 1 <<< (x2 &&& 31)) ^^^ (-1))
def mNdR (r : Nat → Nat → Int32) (x1 x2 : Int32) (x3 : Bool) : Nat → Nat → Int32 := upR r 0 (upd (r 0) (cN x1) (mNdV r x1 x2 x3))
def mNdG (r : Nat → Nat → Int32) (f : Nat → Int32) (x1 x2 : Int32) (x3 : Bool) : gRF × Int32 := ((mNdR r x1 x2 x3, upF f 0 (nI 0)), mBits (mNdR r x1 x2 x3 0 (cN x1)))
def mNeedQ (r : Nat → Nat → Int32) (f : Nat → Int32) (x1 x2 : Int32) (x3 : Bool) : gRF × Int32 :=
  if mIn x1 (nI 0) (nI 7) then (if mIn x2 (nI 0) (nI 7) then (if x1 = x2 then ((r, upF f 0 (nI 2)), nI 0) else
    if x3 then (if (mReach r (cN x2) >>> (x1 &&& 31)) &&& nI 1 = nI 1 then ((r, upF f 0 (nI 3)), nI 0) else mNdG r f x1 x2 x3) else mNdG r f x1 x2 x3)
    else ((r, upF f 0 (nI 1)), nI 0)) else ((r, upF f 0 (nI 1)), nI 0)
