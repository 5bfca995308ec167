
def la (c : Nat → Int32) (i : Nat) : Int := lastEq c (c i) i
def kR (c : Nat → Int32) (i : Nat) : Int := if la c i < 0 then (i : Int) - 160 else la c i
