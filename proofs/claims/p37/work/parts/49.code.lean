def gCode (c1 c2 c3 : Int32) (K : Nat) : Int32 := if K = 0 then nI 0 else if K = 1 then c1 else if K = 2 then c2 else c3
