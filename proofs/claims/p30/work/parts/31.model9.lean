/-! THE REFERENCE, doors: space, densities, reasons -/
def areas (g : Nat → Int32) (x : Int32) (nd : Nat) : Int32 := sumI (fun d => if g (57 + 10 * d + 0) = x ∨ g (57 + 10 * d + 1) = x then g (57 + 10 * d + 2) else 0) nd
def doorsN (g : Nat → Int32) (x : Int32) (nd : Nat) : Int32 := sumI (fun d => if g (57 + 10 * d + 0) = x ∨ g (57 + 10 * d + 1) = x then 1 else 0) nd
def dens (g : Nat → Int32) (a : Nat) : Int32 := if a = 8 then 0 else g (9 + 6 * a + 2) / g (9 + 6 * a + 0)
def difB (g : Nat → Int32) (d : Nat) : Int32 := dens g (gN g (57 + 10 * d + 0)) - dens g (gN g (57 + 10 * d + 1))
def absI (x : Int32) : Int32 := if x < 0 then -x else x
def rsn (g : Nat → Int32) (d : Nat) (t : Int32) : Int32 := if g (57 + 10 * d + 7) = 1 then 1 else if g (57 + 10 * d + 6) = t then 2 else if g (57 + 10 * d + 5) < t ∧ g 7 < absI (difB g d) then 3 else 0
