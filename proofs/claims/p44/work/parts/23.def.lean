/-! WHAT THE PROGRAM'S OWN CELLS HOLD: the powers, the script -/
def ab_pow : List Int32 := [1, 5, 25, 125, 625, 3125, 15625]
def ab_fx (xs : List Int32) : Nat → List Int32 := fun k => if k = 0 then ab_pow else xs
