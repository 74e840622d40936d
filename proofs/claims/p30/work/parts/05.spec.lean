/-! THE REFERENCE'S ROW OF NUMBERS: what its methods do to a row g -/
def gN (g : Nat → Int32) (k : Nat) : Nat := (g k).toNatClampNeg
theorem gN_of {g : Nat → Int32} {k v : Nat} (h : g k = nI v) (hv : v < 2 ^ 31) : gN g k = v := by
  unfold gN
  rw [h]
  exact nI_clamp hv
theorem gN_congr {g h : Nat → Int32} {k : Nat} (e : g k = h k) : gN g k = gN h k := by unfold gN; rw [e]
/-- what a room absorbs in a step -/
def absb (e a : Int32) : Int32 := ((e.toInt64 * a.toInt64 + 999) / 1000).toInt32
/-- what a door lets through from a side at which the room a is -/
def thr (g : Nat → Int32) (d : Nat) (a : Nat) : Int32 := if a = 8 then 0 else ((g (9 + 6 * a + 2)).toInt64 * (g (57 + 10 * d + 2)).toInt64 * (g (57 + 10 * d + 5)).toInt64 / (10 * (g (9 + 6 * a + 0)).toInt64)).toInt32
/-- the level: -4 where there is none -/
def lvl (e : Int32) : Nat → Int32
  | 0 => -4
  | k + 1 => if e >>> (nI k &&& 31) ≤ 0 then lvl e k else nI k
-- what rooms had
def oldR (g : Nat → Int32) (i : Nat) : Nat → Int32 := fun k => if k = 401 + 32 * i then g (9 + 6 * i + 2) else if 401 + 32 * i < k ∧ k < 433 + 32 * i then g (k - 1) else g k
def oldN (g : Nat → Int32) : Nat → (Nat → Int32)
  | 0 => g
  | n + 1 => oldR (oldN g n) n
-- the plan
abbrev zE : Type := Int32 × Int32 × Int32 × Int32 × Int32
def ent (g : Nat → Int32) (k : Nat) : zE := (g (321 + 5 * k + 0), g (321 + 5 * k + 1), g (321 + 5 * k + 2), g (321 + 5 * k + 3), g (321 + 5 * k + 4))
def planL (g : Nat → Int32) (np : Nat) : List zE := (List.range np).map (ent g)
def lvs (g : Nat → Int32) (i np : Nat) : Nat → Int32 := fun k => if k = 2 then g 2 - 1 else if 321 + 5 * i ≤ k ∧ k < 321 + 5 * (np - 1) then g (k + 5) else g k
abbrev isT (g : Nat → Int32) (k : Nat) : Prop := g (321 + 5 * k + 1) = 1 ∧ g (321 + 5 * k + 0) = g 3
def tgP (g : Nat → Int32) (k : Nat) : Nat → Int32 := upd g (57 + 10 * gN g (321 + 5 * k + 2) + 6) (if g (57 + 10 * gN g (321 + 5 * k + 2) + 7) = 1 then g (57 + 10 * gN g (321 + 5 * k + 2) + 6) else g (321 + 5 * k + 4))
def tgF : Nat → Nat → (Nat → Int32) → (Nat → Int32)
  | 0, _, g => g
  | f + 1, k, g => if k < gN g 2 then (if isT g k then tgF f k (lvs (tgP g k) k (gN g 2)) else tgF f (k + 1) g) else g
-- doors move
abbrev hrd (g : Nat → Int32) (k : Nat) (x : Int32) : Prop := g (321 + 5 * k + 1) = 0 ∧ g (321 + 5 * k + 2) = x ∧ ¬ g 3 < g (321 + 5 * k + 0) ∧ ¬ g (321 + 5 * k + 0) + g (321 + 5 * k + 3) - 1 < g 3
def hrN (g : Nat → Int32) (x : Int32) (n : Nat) : Int32 := sumI (fun k => if hrd g k x then 1 else 0) n
def mvG (g : Nat → Int32) (i : Nat) : Int32 := if g (57 + 10 * i + 3) < g (57 + 10 * i + 6) - g (57 + 10 * i + 5) then g (57 + 10 * i + 3) else if g (57 + 10 * i + 6) - g (57 + 10 * i + 5) < - g (57 + 10 * i + 3) then - g (57 + 10 * i + 3) else g (57 + 10 * i + 6) - g (57 + 10 * i + 5)
def movA (g : Nat → Int32) (i : Nat) : Nat → Int32 := upd g (57 + 10 * i + 5) (g (57 + 10 * i + 5) + mvG g i)
def movR (g : Nat → Int32) (i : Nat) : Nat → Int32 := upd (movA g i) 6 (movA g i 6 + if 0 < mvG g i ∧ 0 < hrN (movA g i) (g (57 + 10 * i)) (gN g 2) + hrN (movA g i) (g (57 + 10 * i + 1)) (gN g 2) then 1 else 0)
def movN (g : Nat → Int32) : Nat → (Nat → Int32)
  | 0 => g
  | n + 1 => movR (movN g n) n
-- sounds
def sndP (g : Nat → Int32) (k : Nat) : Nat → Int32 := upd (upd g (9 + 6 * gN g (321 + 5 * k + 2) + 2) (g (9 + 6 * gN g (321 + 5 * k + 2) + 2) + g (321 + 5 * k + 4))) (9 + 6 * gN g (321 + 5 * k + 2) + 4) (g (9 + 6 * gN g (321 + 5 * k + 2) + 4) + g (321 + 5 * k + 4))
def sndQ (g : Nat → Int32) (k : Nat) : Nat → Int32 := if hrd g k (g (321 + 5 * k + 2)) then sndP g k else g
abbrev sndE (g : Nat → Int32) (k : Nat) : Prop := hrd g k (g (321 + 5 * k + 2)) ∧ g (321 + 5 * k + 0) + g (321 + 5 * k + 3) - 1 = g 3
def sndF : Nat → Nat → (Nat → Int32) → (Nat → Int32)
  | 0, _, g => g
  | f + 1, k, g => if k < gN g 2 then (if sndE g k then sndF f k (lvs (sndQ g k) k (gN g 2)) else sndF f (k + 1) (sndQ g k)) else g
-- rooms absorb
def absR (g : Nat → Int32) (i : Nat) : Nat → Int32 := upd (upd g (9 + 6 * i + 2) (g (9 + 6 * i + 2) - absb (g (9 + 6 * i + 2)) (g (9 + 6 * i + 1)))) (9 + 6 * i + 3) (g (9 + 6 * i + 3) + absb (g (9 + 6 * i + 2)) (g (9 + 6 * i + 1)))
def absN (g : Nat → Int32) : Nat → (Nat → Int32)
  | 0 => g
  | n + 1 => absR (absN g n) n
-- through doors
def thrG (g : Nat → Int32) (k : Nat) : Int32 := thr g (k / 2) (gN g (57 + 10 * (k / 2) + k % 2))
def snd1 (fl : Nat → Int32) (g : Nat → Int32) (k : Nat) : Nat → Int32 := if gN g (57 + 10 * (k / 2) + k % 2) = 8 then g else upd g (9 + 6 * gN g (57 + 10 * (k / 2) + k % 2) + 2) (g (9 + 6 * gN g (57 + 10 * (k / 2) + k % 2) + 2) - fl k)
def snd2 (fl : Nat → Int32) (g : Nat → Int32) (k : Nat) : Nat → Int32 := upd (snd1 fl g k) (57 + 10 * (k / 2) + 8 + k % 2) (snd1 fl g k (57 + 10 * (k / 2) + 8 + k % 2) + fl k)
def sendR (fl : Nat → Int32) (g : Nat → Int32) (k : Nat) : Nat → Int32 := upd (snd2 fl g k) (177 + 12 * (k / 2) + 6 * (k % 2) + gN g (57 + 10 * (k / 2) + 4)) (snd2 fl g k (177 + 12 * (k / 2) + 6 * (k % 2) + gN g (57 + 10 * (k / 2) + 4)) + fl k)
def sendN (fl : Nat → Int32) (g : Nat → Int32) : Nat → (Nat → Int32)
  | 0 => g
  | n + 1 => sendR fl (sendN fl g n) n
def arr1 (g : Nat → Int32) (d s : Nat) : Nat → Int32 := if gN g (57 + 10 * d + (1 - s)) = 8 then upd g 4 (g 4 + g (177 + 12 * d + 6 * s)) else upd g (9 + 6 * gN g (57 + 10 * d + (1 - s)) + 2) (g (9 + 6 * gN g (57 + 10 * d + (1 - s)) + 2) + g (177 + 12 * d + 6 * s))
def arr2 (g : Nat → Int32) (a n : Nat) : Nat → Int32 := fun j => if a ≤ j ∧ j < a + n then g (j + 1) else g j
def arrR (g : Nat → Int32) (d s : Nat) : Nat → Int32 := upd (arr2 (arr1 g d s) (177 + 12 * d + 6 * s) 5) (177 + 12 * d + 6 * s + 5) 0
def arrN (g : Nat → Int32) : Nat → (Nat → Int32)
  | 0 => g
  | n + 1 => arrR (arrN g n) (n / 2) (n % 2)
/-- a step -/
def mS1 (g : Nat → Int32) : Nat → Int32 := oldN g (gN g 0)
def mS2 (g : Nat → Int32) : Nat → Int32 := tgF (gN (mS1 g) 2) 0 (mS1 g)
def mS3 (g : Nat → Int32) : Nat → Int32 := movN (mS2 g) (gN (mS2 g) 1)
def mS4 (g : Nat → Int32) : Nat → Int32 := sndF (gN (mS3 g) 2) 0 (mS3 g)
def mS5 (g : Nat → Int32) : Nat → Int32 := absN (mS4 g) (gN (mS4 g) 0)
def mS6 (g : Nat → Int32) : Nat → Int32 := sendN (thrG (mS5 g)) (mS5 g) (2 * gN (mS5 g) 1)
def mS7 (g : Nat → Int32) : Nat → Int32 := arrN (mS6 g) (2 * gN (mS6 g) 1)
def mStep (g : Nat → Int32) : Nat → Int32 := upd (mS7 g) 3 (mS7 g 3 + 1)
/-- what holds of the row: rooms, doors, entries of the plan, the present step -/
def RMS (nr : Nat) (g : Nat → Int32) : Prop := ∀ r, r < 8 → (r < nr → (∃ v, g (9 + 6 * r + 0) = nI v ∧ 10 ≤ v ∧ v ≤ 10000) ∧ (∃ u, g (9 + 6 * r + 5) = nI u ∧ u ≤ 6000)) ∧ (nr ≤ r → (∀ w, w < 6 → g (9 + 6 * r + w) = 0) ∧ ∀ k, k < 32 → g (401 + 32 * r + k) = 0)
def DOK (nr d : Nat) (g : Nat → Int32) : Prop := ∃ a b ar sp de o t l : Nat, (g (57 + 10 * d + 0) = nI a ∧ a < nr) ∧ (g (57 + 10 * d + 1) = nI b ∧ (b < nr ∨ b = 8)) ∧ a ≠ b ∧ (g (57 + 10 * d + 2) = nI ar ∧ 1 ≤ ar ∧ ar ≤ 1000) ∧ (g (57 + 10 * d + 3) = nI sp ∧ 1 ≤ sp ∧ sp ≤ 10) ∧ (g (57 + 10 * d + 4) = nI de ∧ de ≤ 5) ∧ (g (57 + 10 * d + 5) = nI o ∧ o ≤ 10) ∧ (g (57 + 10 * d + 6) = nI t ∧ t ≤ 10) ∧ (g (57 + 10 * d + 7) = nI l ∧ l ≤ 1)
def DRS (nr nd : Nat) (g : Nat → Int32) : Prop := ∀ d, d < 12 → (d < nd → DOK nr d g) ∧ (nd ≤ d → (∀ w, w < 10 → g (57 + 10 * d + w) = 0) ∧ ∀ k, k < 12 → g (177 + 12 * d + k) = 0)
def EOK (nr nd st : Nat) (e : zE) : Prop := ∃ f kd wh sp mu : Nat, e = (nI f, nI kd, nI wh, nI sp, nI mu) ∧ f ≤ 5000 ∧ ((kd = 0 ∧ wh < nr ∧ 1 ≤ sp ∧ sp ≤ 20 ∧ st < f + sp ∧ mu ≤ 1000000) ∨ (kd = 1 ∧ wh < nd ∧ sp = 0 ∧ st ≤ f ∧ mu ≤ 10))
def PLN (nr nd st np : Nat) (g : Nat → Int32) : Prop := (∀ k, k < np → EOK nr nd st (ent g k)) ∧ ∀ k, k + 1 < np → gN g (321 + 5 * k) ≤ gN g (321 + 5 * (k + 1))
def INV (nr nd np st : Nat) (g : Nat → Int32) : Prop := (g 0 = nI nr ∧ nr ≤ 8) ∧ (g 1 = nI nd ∧ nd ≤ 12) ∧ (g 2 = nI np ∧ np ≤ 16) ∧ g 3 = nI st ∧ RMS nr g ∧ DRS nr nd g ∧ PLN nr nd st np g
/-- cells of which nothing is asked -/
def fre (nr nd k : Nat) : Prop := k = 4 ∨ k = 5 ∨ k = 6 ∨ k = 7 ∨ k = 8 ∨ (∃ r, r < nr ∧ 9 + 6 * r + 1 ≤ k ∧ k ≤ 9 + 6 * r + 4) ∨ (∃ d, d < nd ∧ (k = 57 + 10 * d + 8 ∨ k = 57 + 10 * d + 9)) ∨ (∃ d, d < nd ∧ 177 + 12 * d ≤ k ∧ k < 189 + 12 * d) ∨ (∃ r, r < nr ∧ 401 + 32 * r ≤ k ∧ k < 433 + 32 * r)
theorem INV_free {nr nd np st : Nat} {g h : Nat → Int32} (hI : INV nr nd np st g) (hh : ∀ k, ¬ fre nr nd k → h k = g k) : INV nr nd np st h := by
  obtain ⟨⟨a1, a2⟩, ⟨b1, b2⟩, ⟨c1, c2⟩, d1, e1, f1, p1, p2⟩ := hI
  have key : ∀ k, (k < 4 ∨ (∃ r, r < 8 ∧ (k = 9 + 6 * r + 0 ∨ k = 9 + 6 * r + 5)) ∨ (∃ r, nr ≤ r ∧ r < 8 ∧ 9 + 6 * r ≤ k ∧ k < 9 + 6 * r + 6) ∨ (∃ r, nr ≤ r ∧ r < 8 ∧ 401 + 32 * r ≤ k ∧ k < 433 + 32 * r) ∨ (∃ d, d < 12 ∧ 57 + 10 * d ≤ k ∧ k < 57 + 10 * d + 8) ∨ (∃ d, nd ≤ d ∧ d < 12 ∧ 57 + 10 * d ≤ k ∧ k < 57 + 10 * d + 10) ∨ (∃ d, nd ≤ d ∧ d < 12 ∧ 177 + 12 * d ≤ k ∧ k < 189 + 12 * d) ∨ (321 ≤ k ∧ k < 401)) → h k = g k := by
    intro k hk
    apply hh
    unfold fre
    rcases hk with hk | ⟨r, hk⟩ | ⟨r, hk⟩ | ⟨r, hk⟩ | ⟨r, hk⟩ | ⟨r, hk⟩ | ⟨r, hk⟩ | hk <;>
    · rintro (q | q | q | q | q | ⟨y, q⟩ | ⟨y, q⟩ | ⟨y, q⟩ | ⟨y, q⟩) <;> omega
  refine ⟨⟨by rw [key 0 (by omega)]; exact a1, a2⟩, ⟨by rw [key 1 (by omega)]; exact b1, b2⟩, ⟨by rw [key 2 (by omega)]; exact c1, c2⟩, by rw [key 3 (by omega)]; exact d1, ?_, ?_, ?_, ?_⟩
  · intro r hr
    refine ⟨fun hn => ?_, fun hn => ⟨fun w hw => ?_, fun k hk => ?_⟩⟩
    · rw [key (9 + 6 * r + 0) (Or.inr (Or.inl ⟨r, hr, Or.inl rfl⟩)), key (9 + 6 * r + 5) (Or.inr (Or.inl ⟨r, hr, Or.inr rfl⟩))]
      exact (e1 r hr).1 hn
    · rw [key (9 + 6 * r + w) (Or.inr (Or.inr (Or.inl ⟨r, hn, hr, by omega, by omega⟩)))]
      exact ((e1 r hr).2 hn).1 w hw
    · rw [key (401 + 32 * r + k) (Or.inr (Or.inr (Or.inr (Or.inl ⟨r, hn, hr, by omega, by omega⟩))))]
      exact ((e1 r hr).2 hn).2 k hk
  · intro d hd
    refine ⟨fun hn => ?_, fun hn => ⟨fun w hw => ?_, fun k hk => ?_⟩⟩
    · have q : ∀ w, w < 8 → h (57 + 10 * d + w) = g (57 + 10 * d + w) := fun w hw => key _ (Or.inr (Or.inr (Or.inr (Or.inr (Or.inl ⟨d, hd, by omega, by omega⟩)))))
      have := (f1 d hd).1 hn
      unfold DOK at this ⊢
      rw [q 0 (by omega), q 1 (by omega), q 2 (by omega), q 3 (by omega), q 4 (by omega), q 5 (by omega), q 6 (by omega), q 7 (by omega)]
      exact this
    · rw [key (57 + 10 * d + w) (Or.inr (Or.inr (Or.inr (Or.inr (Or.inr (Or.inl ⟨d, hn, hd, by omega, by omega⟩))))))]
      exact ((f1 d hd).2 hn).1 w hw
    · rw [key (177 + 12 * d + k) (Or.inr (Or.inr (Or.inr (Or.inr (Or.inr (Or.inr (Or.inl ⟨d, hn, hd, by omega, by omega⟩)))))))]
      exact ((f1 d hd).2 hn).2 k hk
  · intro k hk
    have q : ∀ w, w < 5 → h (321 + 5 * k + w) = g (321 + 5 * k + w) := fun w hw => key _ (Or.inr (Or.inr (Or.inr (Or.inr (Or.inr (Or.inr (Or.inr ⟨by omega, by omega⟩)))))))
    have := p1 k hk
    unfold ent at this ⊢
    rw [q 0 (by omega), q 1 (by omega), q 2 (by omega), q 3 (by omega), q 4 (by omega)]
    exact this
  · intro k hk
    rw [gN_congr (key (321 + 5 * k) (Or.inr (Or.inr (Or.inr (Or.inr (Or.inr (Or.inr (Or.inr ⟨by omega, by omega⟩)))))))), gN_congr (key (321 + 5 * (k + 1)) (Or.inr (Or.inr (Or.inr (Or.inr (Or.inr (Or.inr (Or.inr ⟨by omega, by omega⟩))))))))]
    exact p2 k hk
theorem upd_s (f : Nat → Int32) (k : Nat) (x : Int32) : upd f k x k = x := by simp [upd]
theorem upd_n (f : Nat → Int32) {k j : Nat} (x : Int32) (h : j ≠ k) : upd f k x j = f j := by simp [upd, h]
theorem zw_upd (I : zII) (r k : Nat) (x : Int32) : zw I r k x r = upd (I r) k x := by
  funext j
  simp [zw, upd]


