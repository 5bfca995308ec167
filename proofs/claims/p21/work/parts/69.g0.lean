/-! how many colours from l to r: what grows with the span -/
def Kc (c : Nat → Int32) (l r : Int) : Int := (cntB (sS c l r) 24 : Int)