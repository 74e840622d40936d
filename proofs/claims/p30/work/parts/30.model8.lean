/-! THE REFERENCE, foretelling: rise, peak, quiet, fell -/
def hsS (g : Nat → Int32) : Nat → Int32
  | 0 => nI 0
  | k + 1 => if ¬ hsS g k = 0 ∨ g (321 + 5 * k + 1) = 0 then nI 1 else nI 0
def allR (g : Nat → Int32) (w : Nat) : Int32 := sumI (fun i => g (9 + 6 * i + w)) (gN g 0)
def allW (g : Nat → Int32) : Int32 := sumI (fun d => sumI (fun i => g (177 + 12 * d + i)) 12) (gN g 1)
