/-! THE REFERENCE, what is asked: rooms, doors, counts, the plan -/
def roomQ (g : Nat → Int32) (r : Nat) : Nat → Int32
  | 3 => dens g r
  | 4 => lvl (g (9 + 6 * r + 2)) 31
  | 5 => g (9 + 6 * r + 3)
  | 6 => g (9 + 6 * r + 4)
  | 7 => doorsN g (nI r) (gN g 1)
  | 8 => hrN g (nI r) (gN g 2)
  | w => g (9 + 6 * r + w)
def sp_roomOf (g : Nat → Int32) (x w : Int32) : Int32 := if x < 0 ∨ g 0 ≤ x then -1 else if w < nI 0 ∨ nI 8 < w then -1 else roomQ g x.toNatClampNeg w.toNatClampNeg
def doorQ (g : Nat → Int32) (d w : Nat) : Int32 := if w < 8 then g (57 + 10 * d + w) else if w = 8 then sumI (fun i => g (177 + 12 * d + i)) 12 else if w < 11 then g (57 + 10 * d + (w - 1)) else thr g d (gN g (57 + 10 * d + (w - 11)))
def sp_doorOf (g : Nat → Int32) (x w : Int32) : Int32 := if x < 0 ∨ g 1 ≤ x then -1 else if w < nI 0 ∨ nI 12 < w then -1 else doorQ g x.toNatClampNeg w.toNatClampNeg
def cntQ (g : Nat → Int32) (u y : Int32) : Nat → Int32
  | 0 => g 0
  | 1 => g 1
  | 2 => g 2
  | 3 => g 3
  | 4 => allR g 2
  | 5 => allW g
  | 6 => allR g 3
  | 7 => g 4
  | 8 => allR g 4
  | 9 => g 5
  | 10 => g 6
  | 11 => u
  | 12 => y
  | 20 => g 7
  | 21 => g 8
  | _ => -1
def sp_count (g : Nat → Int32) (u y x : Int32) : Int32 := if x < nI 0 ∨ nI 21 < x then -1 else cntQ g u y x.toNatClampNeg
def sp_plan (g : Nat → Int32) (x w : Int32) : Int32 := if x < 0 then -1 else if w < nI 0 ∨ nI 4 < w then -1 else if x < g 2 then g (321 + 5 * x.toNatClampNeg + w.toNatClampNeg) else -4
