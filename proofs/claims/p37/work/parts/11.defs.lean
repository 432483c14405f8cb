def cIsSwitch (x : Int32) : Bool := if x < 0 then false else if nI 8 ≤ x then false else true
def cSubj (x : Int32) : Int32 := nI 8 + x
def cHasBit (b p : Int32) : Bool := decide ((b >>> (p &&& 31)) &&& nI 1 = nI 1)
def cWithBit (b p : Int32) (s : Bool) : Int32 := if s then b ||| (nI 1 <<< (p &&& 31)) else b &&& ((nI 1 <<< (p &&& 31)) ^^^ (-1))
def cBitCount (i : Int32) : Int32 := 
  let u (x y : Int32) : Int32 := (x.toUInt32 >>> (y.toUInt32 &&& Int32.toUInt32 31)).toInt32
  let a := i - ((u i (nI 1)) &&& 1431655765)
  let b := (a &&& 858993459) + ((u a (nI 2)) &&& 858993459)
  let c := (b + u b (nI 4)) &&& 252645135
  let d := c + u c (nI 8)
  let e := d + u d (nI 16)
  e &&& nI 63
def cValueNow (r : Nat → Nat → Int32) (x : Int32) : Int32 := if rAt 12 (r 10) x = -1 then nI 0 else rAt 200 (r 8) (rAt 12 (r 10) x)
def cSince (r : Nat → Nat → Int32) (x : Int32) : Int32 := if rAt 12 (r 10) x = -1 then nI 0 else rAt 200 (r 6) (rAt 12 (r 10) x)
def cOther (r : Nat → Nat → Int32) (x : Int32) : Int32 := if rAt 12 (r 10) (rAt 200 (r 7) x) = x then rAt 200 (r 9) x else rAt 12 (r 10) (rAt 200 (r 7) x)
def cWithout (r : Nat → Nat → Int32) (x : Int32) : Int32 := if cOther r x = -1 then nI 0 else rAt 200 (r 8) (cOther r x)
def cAddR (r : Nat → Nat → Int32) (f : Nat → Int32) (x1 x2 x3 x4 : Int32) : Nat → Nat → Int32 :=
  upR (upR (upR (upR (upR (upR r 5 (rPut 200 (r 5) (f 3) x1)) 6 (rPut 200 (r 6) (f 3) x2)) 7 (rPut 200 (r 7) (f 3) x3)) 8 (rPut 200 (r 8) (f 3) x4)) 9 (rPut 200 (r 9) (f 3) (rAt 12 (r 10) x3))) 10 (rPut 12 (r 10) x3 (f 3))
def cOpenR (r : Nat → Nat → Int32) (f : Nat → Int32) (x1 x2 x3 : Int32) : Nat → Nat → Int32 :=
  upR (upR (upR (upR r 11 (rPut 200 (r 11) (f 4) x1)) 12 (rPut 200 (r 12) (f 4) x2)) 14 (rPut 200 (r 14) (f 4) x3)) 16 (rPut 4 (r 16) x1 (f 4))
def cCloseR (r : Nat → Nat → Int32) (x1 x2 : Int32) : Nat → Nat → Int32 :=
  if rAt 4 (r 16) x1 = -1 then r else upR (upR r 13 (rPut 200 (r 13) (rAt 4 (r 16) x1) x2)) 16 (rPut 4 (r 16) x1 (-1))
def cNoteR (r : Nat → Nat → Int32) (a k : Nat) (x : Int32) : Nat → Nat → Int32 := upR r 15 (itN k (fun j g => rPut 200 g (nI (a + j)) x) (r 15))
def cAnyOpen (r : Nat → Nat → Int32) (n : Nat) : Bool := anyN n (fun j => !decide (rAt 4 (r 16) (nI j) = -1))
def cNear (r : Nat → Nat → Int32) (x : Int32) (w : Nat) : Int32 :=
  if lastN w (fun j => decide (rAt 42 (r 17) (nI j) = x)) = -1 then nI w + nI 1 + rAt 6 (r 18) x else nI w - lastN w (fun j => decide (rAt 42 (r 17) (nI j) = x)) + rAt 6 (r 18) x
def cNT (r : Nat → Nat → Int32) (w : Nat) (c : Nat) (q : Int32 × Int32) : Int32 × Int32 :=
  if nI c = rAt 42 (r 17) (nI w - nI 1) then q else if cNear r (nI c) w ≤ q.2 then q else (nI c, cNear r (nI c) w)
def cNearest (r : Nat → Nat → Int32) (w : Nat) : Int32 := (itN 6 (cNT r w) (-1, -1)).1
def cWeekR (r : Nat → Nat → Int32) (w : Nat) : Nat → Nat → Int32 :=
  upR (upR r 18 (rPut 6 (r 18) (rAt 42 (r 17) (nI w)) (nI 0))) 17 (rPut 42 (r 17) (nI w + nI 1) (cNearest (upR r 18 (rPut 6 (r 18) (rAt 42 (r 17) (nI w)) (nI 0))) (w + 1)))
def cRest (r : Nat → Nat → Int32) (x1 x2 : Int32) : Bool := if rAt 6 (r 19) x1 < x2 then false else if x2 ≤ rAt 6 (r 19) x1 - nI 12 then false else true
def cDT (r : Nat → Nat → Int32) (t : Int32) (c : Nat) (q : Int32 × Int32) : Int32 × Int32 :=
  if cRest r (nI c) t then q else if rAt 6 (r 18) (nI c) ≤ q.2 then q else (nI c, rAt 6 (r 18) (nI c))
def cDuty (r : Nat → Nat → Int32) (x : Int32) : Int32 :=
  if cRest r (rAt 42 (r 17) (x / nI 14)) x then (itN 6 (cDT r x) (-1, -1)).1 else rAt 42 (r 17) (x / nI 14)
def cCallR (r : Nat → Nat → Int32) (x : Int32) : Nat → Nat → Int32 :=
  if cDuty r x = -1 then r else if x - x / nI 2 * nI 2 = 0 then upR r 20 (rPut 6 (r 20) (cDuty r x) (rAt 6 (r 20) (cDuty r x) + nI 1))
  else upR (upR r 21 (rPut 6 (r 21) (cDuty r x) (rAt 6 (r 21) (cDuty r x) + nI 1))) 19 (rPut 6 (r 19) (cDuty r x) (x + nI 12))
def cCallF (r : Nat → Nat → Int32) (f : Nat → Int32) (x : Int32) : Nat → Int32 := if cDuty r x = -1 then upF f 5 (f 5 + nI 1) else f
def cShows (r : Nat → Nat → Int32) (x1 x2 : Int32) : Bool :=
  if rAt 20 (r 2) x1 = nI 1 then true else if (rAt 20 (r 3) x1) &&& x2 = 0 then (if (rAt 20 (r 4) x1) &&& (x2 ^^^ (-1)) = 0 then false else true) else true
def cDefR (r : Nat → Nat → Int32) (x1 x2 : Int32) (x3 : Bool) : Nat → Nat → Int32 :=
  if x2 = -1 then upR r 2 (rPut 20 (r 2) x1 (nI 1)) else if x3 then upR r 3 (rPut 20 (r 3) x1 (cWithBit (rAt 20 (r 3) x1) x2 true)) else upR r 4 (rPut 20 (r 4) x1 (cWithBit (rAt 20 (r 4) x1) x2 true))
def cGI (r : Nat → Nat → Int32) (c : Nat) (b : Int32) : Int32 := if cHasBit b (nI c) then b ||| rAt 8 (r 0) (nI c) else b
def cGather (r : Nat → Nat → Int32) (x : Int32) : Int32 := itN 7 (fun _ b => itN 8 (cGI r) b) (nI 1 <<< (x &&& 31))
def cPutN (r : Nat → Nat → Int32) (x1 x2 : Int32) (x3 : Bool) : Nat → Nat → Int32 := upR r 0 (rPut 8 (r 0) x1 (cWithBit (rAt 8 (r 0) x1) x2 x3))
def cPutW (r : Nat → Nat → Int32) (k : Nat) : Nat → Nat → Int32 := upR r 1 (itN k (fun j g => rPut 8 g (nI j) (cGather r (nI j))) (r 1))
def cOnI (r : Nat → Nat → Int32) (x : Int32) (c : Nat) (b : Int32) : Int32 := cWithBit b (nI c) (decide ((rAt 8 (r 1) (nI c)) &&& (x ^^^ (-1)) = 0))
def cOn (r : Nat → Nat → Int32) (x : Int32) : Int32 := itN 8 (cOnI r x) (nI 0)
def cRuns (r : Nat → Nat → Int32) (x : Int32) : Int32 := cValueNow r (cSubj x)
def cSetI (r : Nat → Nat → Int32) (x : Int32) (c : Nat) (b : Int32) : Int32 := cWithBit b (nI c) (!decide (cValueNow r (nI c) ≤ x))
def cSet (r : Nat → Nat → Int32) (x : Int32) : Int32 := itN 8 (cSetI r x) (nI 0)
def cProven (r : Nat → Nat → Int32) (f : Nat → Int32) (x1 x2 : Int32) : Bool :=
  if cValueNow r (cSubj (x1 - nI 1)) = x2 then (if f 1 - cSince r (cSubj (x1 - nI 1)) < nI 2 then false else true) else false
def cHeld (r : Nat → Nat → Int32) (f : Nat → Int32) (x1 x2 : Int32) (n : Nat) : Bool :=
  if x1 = 0 then false else if cProven r f x1 x2 then cAnyOpen r n else true
def cFault (r : Nat → Nat → Int32) (x : Int32) : Bool := cShows r (cRuns r x) (cOn r (cSet r x))
def cFWv (r : Nat → Nat → Int32) (x1 x2 : Int32) : Int32 := if rAt 200 (r 7) x1 = cSubj x2 then cWithout r x1 else cRuns r x2
def cFWs (r : Nat → Nat → Int32) (x1 x2 : Int32) : Int32 := if cIsSwitch (rAt 200 (r 7) x1) then cWithBit (cSet r x2) (rAt 200 (r 7) x1) (!decide (cWithout r x1 ≤ x2)) else cSet r x2
def cFW (r : Nat → Nat → Int32) (x1 x2 : Int32) : Bool := cShows r (cFWv r x1 x2) (cOn r (cFWs r x1 x2))
def cLI (r : Nat → Nat → Int32) (x : Int32) (s : Nat) (q : Int32) : Int32 :=
  if (cIsSwitch (nI s) || decide (nI s = cSubj x)) then (if rAt 12 (r 10) (nI s) ≤ q then q else if cFW r (rAt 12 (r 10) (nI s)) x then q else rAt 12 (r 10) (nI s)) else q
def cLatest (r : Nat → Nat → Int32) (x : Int32) : Int32 := if cFault r x then itN 12 (cLI r x) (-1) else -1
theorem anyN_t {n : Nat} {P : Nat → Bool} {i : Nat} (hi : i < n) (h : P i = true) : anyN n P = true := by
  induction n with
  | zero => omega
  | succ n ih =>
    by_cases h1 : i = n
    · subst h1; simp [anyN, h]
    · simp [anyN, ih (by omega)]
theorem anyN_f {n : Nat} {P : Nat → Bool} (h : ∀ j, j < n → P j = false) : anyN n P = false := by
  induction n with
  | zero => rfl
  | succ n ih => simp [anyN, ih (fun j hj => h j (by omega)), h n (by omega)]
theorem lastN_eq {w : Nat} {P : Nat → Bool} {k : Nat} (hk : k < w) (h : P k = true) (hn : ∀ j, k < j → j < w → P j = false) : lastN w P = nI k := by
  induction w with
  | zero => omega
  | succ n ih =>
    by_cases h1 : k = n
    · subst h1; simp [lastN, h]
    · simp [lastN, hn n (by omega) (by omega), ih (by omega) (fun j a b => hn j a (by omega))]
theorem lastN_none {w : Nat} {P : Nat → Bool} (h : ∀ j, j < w → P j = false) : lastN w P = -1 := by
  induction w with
  | zero => rfl
  | succ n ih => simp [lastN, h n (by omega), ih (fun j a => h j (by omega))]
theorem nI_ne_m1 {k : Nat} (h : k < 2 ^ 31) : ¬ nI k = -1 := by
  intro q
  have a := nI_toInt h
  rw [q] at a
  have b : (-1 : Int32).toInt = -1 := by decide
  omega
theorem x_m1 (x : Int32) : x + (-1) = x - nI 1 := by
  rw [Int32.sub_eq_add_neg]
  rfl
