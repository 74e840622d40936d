/-! THE REFERENCE, what is told: rooms, doors, entries of the plan -/
def zfG (g : Nat → Int32) (a i : Nat) : Nat → Int32 := fun k => if a ≤ k ∧ k < a + i then 0 else g k
def roomA (g : Nat → Int32) (r : Nat) (v a : Int32) : Nat → Int32 := upd (upd (upd (upd (upd (upd g (9 + 6 * r + 0) v) (9 + 6 * r + 1) a) (9 + 6 * r + 2) 0) (9 + 6 * r + 3) 0) (9 + 6 * r + 4) 0) (9 + 6 * r + 5) (g 3)
def roomG (g : Nat → Int32) (r : Nat) (v a : Int32) : Nat → Int32 := upd (zfG (roomA g r v a) (401 + 32 * r) 32) 0 (nI (r + 1))
def sp_room (g : Nat → Int32) (v a : Int32) : Int32 × Option (Nat → Int32) := if v < nI 10 ∨ nI 10000 < v then (-1, none) else if a < nI 0 ∨ nI 1000 < a then (-1, none) else if gN g 0 = 8 then (-3, none) else (g 0, some (roomG g (gN g 0) v a))
def doorA (g : Nat → Int32) (d : Nat) (a b ar sp de : Int32) : Nat → Int32 := upd (upd (upd (upd (upd (zfG g (57 + 10 * d) 10) (57 + 10 * d) a) (57 + 10 * d + 1) b) (57 + 10 * d + 2) ar) (57 + 10 * d + 3) sp) (57 + 10 * d + 4) de
def doorG (g : Nat → Int32) (d : Nat) (a b ar sp de : Int32) : Nat → Int32 := upd (zfG (doorA g d a b ar sp de) (177 + 12 * d) 12) 1 (nI (d + 1))
abbrev spcG (g : Nat → Int32) (r : Nat) (a : Int32) : Prop := r = 8 ∨ ¬ g (9 + 6 * r + 0) < areas g (nI r) (gN g 1) + a
def doorP (g : Nat → Int32) (x y : Nat) (ar sp de : Int32) : Int32 × Option (Nat → Int32) := if ¬ spcG g x ar then (-2, none) else if ¬ spcG g y ar then (-2, none) else if gN g 1 = 12 then (-3, none) else (g 1, some (doorG g (gN g 1) (nI x) (nI y) ar sp de))
def sp_door (g : Nat → Int32) (x y ar sp de : Int32) : Int32 × Option (Nat → Int32) := if x < 0 ∨ g 0 ≤ x then (-1, none) else if (y < 0 ∨ g 0 ≤ y) ∧ ¬ y = nI 8 then (-1, none) else if x = y then (-1, none) else if ar < nI 1 ∨ nI 1000 < ar then (-1, none) else if sp < nI 1 ∨ nI 10 < sp then (-1, none) else if de < nI 0 ∨ nI 5 < de then (-1, none) else doorP g x.toNatClampNeg y.toNatClampNeg ar sp de
def posF (g : Nat → Int32) (t : Int32) : Nat → Nat → Nat
  | 0, k => k
  | f + 1, k => if t < g (321 + 5 * k + 0) then k else posF g t f (k + 1)
def insP (g : Nat → Int32) (np j : Nat) : Nat → Int32 := fun k => if 326 + 5 * np ≤ k + j ∧ k < 326 + 5 * np then g (k - 5) else g k
def putE (g : Nat → Int32) (np p : Nat) (t kd wh sp mu : Int32) : Nat → Int32 := upd (upd (upd (upd (upd (insP g np (5 * (np - p))) (321 + 5 * p + 0) t) (321 + 5 * p + 1) kd) (321 + 5 * p + 2) wh) (321 + 5 * p + 3) sp) (321 + 5 * p + 4) mu
def putB (g : Nat → Int32) (np p : Nat) (t kd wh sp mu : Int32) : Nat → Int32 := upd (putE g np p t kd wh sp mu) 2 (putE g np p t kd wh sp mu 2 + nI 1)
def putG (g : Nat → Int32) (np : Nat) (t kd wh sp mu : Int32) : Nat → Int32 := upd (putB g np (posF g t np 0) t kd wh sp mu) 5 (putB g np (posF g t np 0) t kd wh sp mu 5 + sp * mu)
def soundQ (g : Nat → Int32) (x t k e : Int32) : Int32 × Option (Nat → Int32) := if t < g 3 then (-2, none) else if gN g 2 = 16 then (-3, none) else if 1000000000 < g 5 + k * e then (-3, none) else (putG g (gN g 2) t (nI 0) x k e 2, some (putG g (gN g 2) t (nI 0) x k e))
def sp_sound (g : Nat → Int32) (x t k e : Int32) : Int32 × Option (Nat → Int32) := if x < 0 ∨ g 0 ≤ x then (-1, none) else if t < nI 0 ∨ nI 5000 < t then (-1, none) else if k < nI 1 ∨ nI 20 < k then (-1, none) else if e < nI 1 ∨ 1000000 < e then (-1, none) else soundQ g x t k e
def targQ (g : Nat → Int32) (x t a : Int32) : Int32 × Option (Nat → Int32) := if t < g 3 then (-2, none) else if gN g 2 = 16 then (-3, none) else (putG g (gN g 2) t (nI 1) x (nI 0) a 2, some (putG g (gN g 2) t (nI 1) x (nI 0) a))
def sp_planDoor (g : Nat → Int32) (x t a : Int32) : Int32 × Option (Nat → Int32) := if x < 0 ∨ g 1 ≤ x then (-1, none) else if t < nI 0 ∨ nI 5000 < t then (-1, none) else if a < nI 0 ∨ nI 10 < a then (-1, none) else targQ g x t a
