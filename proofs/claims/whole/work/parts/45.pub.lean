/-! what the public methods answer -/
def feL (L : List Int) (p0 p1 p2 p3 p4 : Int) : List Int := L ++ nb p0 4 ++ nb p1 4 ++ nb p2 4 ++ nb p3 4 ++ nb p4 4
def wrL (x y cs z : Int) : List Int := idB x y cs ++ lnB z
def adL (x y q : Int) : List Int := idB x y 0 ++ lnB (fwb q 7 1) ++ nb q (fwb q 7 1).toNat
def wrd (L : List Int) (i : Int) : Int := sfold (fun j => gd L (i + j)) 8 0 0
def okp (w : Nat) (t : Nat → Int) (z : Int) : Prop := ∃ P : List Int, okB w t z P
