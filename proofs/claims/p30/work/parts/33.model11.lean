/-! THE REFERENCE, what is changed: the past, doors, settings, the plan, time -/
def chC (pc : Nat) : Nat := if pc = 4 then 3 else pc
def openQ (g : Nat → Int32) (d : Nat) (t : Int32) : Int32 × Option (Nat → Int32) := if rsn g d t = 0 then (g (57 + 10 * d + 6), some (upd g (57 + 10 * d + 6) t)) else (-2, none)
def sp_open (g : Nat → Int32) (x t : Int32) : Int32 × Option (Nat → Int32) := if x < 0 ∨ g 1 ≤ x then (-1, none) else if t < nI 0 ∨ nI 10 < t then (-1, none) else openQ g x.toNatClampNeg t
def setQ (g : Nat → Int32) (w : Nat) (v : Int32) : Int32 × Option (Nat → Int32) := (g (7 + w), some (upd g (7 + w) v))
def sp_set (g : Nat → Int32) (x v : Int32) : Int32 × Option (Nat → Int32) := if x < nI 0 ∨ nI 1 < x then (-1, none) else if v < nI 0 ∨ 1000000 < v then (-1, none) else setQ g x.toNatClampNeg v
def lockQ (g : Nat → Int32) (d : Nat) (v : Int32) : Int32 × Option (Nat → Int32) := if g (57 + 10 * d + 7) = v then (-2, none) else (g (57 + 10 * d + 5), some (upd (upd g (57 + 10 * d + 7) v) (57 + 10 * d + 6) (if v = 1 then g (57 + 10 * d + 5) else g (57 + 10 * d + 6))))
def sp_lock (g : Nat → Int32) (x v : Int32) : Int32 × Option (Nat → Int32) := if x < 0 ∨ g 1 ≤ x then (-1, none) else if v < nI 0 ∨ nI 1 < v then (-1, none) else lockQ g x.toNatClampNeg v
def sp_cancel (g : Nat → Int32) (x : Int32) : Int32 × Option (Nat → Int32) := if x < nI 0 ∨ g 2 - nI 1 < x then (-1, none) else (g 2 - 1, some (lvs g x.toNatClampNeg (gN g 2)))
def passN (g : Nat → Int32) : Nat → (Nat → Int32)
  | 0 => g
  | k + 1 => mStep (passN g k)
def sp_pass (g : Nat → Int32) (x : Int32) : Int32 × Option (Nat → Int32) := if x < nI 1 ∨ nI 50 < x then (-1, none) else if nI 5000 < g 3 + x then (-3, none) else (passN g x.toNatClampNeg 3, some (passN g x.toNatClampNeg))
