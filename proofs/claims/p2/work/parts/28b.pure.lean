def b_shown (bw bl : Int32) (la : Option Nat) (F : FR) : Int32 := if bw = 0 then (if F.2 ((0 : Int32).toNatClampNeg) = 3 then 1 else 0) else (if la.isSome then (if bl = 0 then 1 else 0) else 0)

