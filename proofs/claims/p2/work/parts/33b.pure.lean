def ch_side (ki cn : Int32) (a : RS) : RS := if ki = 4 then r_bindSome cn a.1 a.2.1 a.2.2 else a
def ch_work (ki cn : Int32) (g : Nat → Int32) (k y pr : Int32) (DA : Nat → Option Nat) (DS : Nat → FR) (w : RS) : Int32 × RS := ct ki cn g k y pr DA DS 20 (r_step ki cn g k y w.1 w.2.1 w.2.2).1 (r_step ki cn g k y w.1 w.2.1 w.2.2).2.1 (r_step ki cn g k y w.1 w.2.1 w.2.2).2.2.1 (r_step ki cn g k y w.1 w.2.1 w.2.2).2.2.2

