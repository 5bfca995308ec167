
def b1 (x : Int32) : Int32 := (1 : Int32) <<< (x &&& 31)
