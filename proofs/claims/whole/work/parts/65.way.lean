/-! THE SHORTEST WAY: sets of places reached, and what the reference relaxes -/
def gr1 (g : Nat → Int32) (w d u : Nat) : Nat := if g (57 + 10 * d + 5) ≤ 0 then u else if w.testBit (gN g (57 + 10 * d + 1)) = true ∧ gN g (57 + 10 * d + 1) ≠ 8 then (if w.testBit (gN g (57 + 10 * d + 0)) = true then u ||| 2 ^ gN g (57 + 10 * d + 1) else u) ||| 2 ^ gN g (57 + 10 * d + 0) else if w.testBit (gN g (57 + 10 * d + 0)) = true then u ||| 2 ^ gN g (57 + 10 * d + 1) else u
def gr (g : Nat → Int32) (w : Nat) : Nat → Nat
  | 0 => w
  | d + 1 => gr1 g w d (gr g w d)
def wk (g : Nat → Int32) (r : Nat) : Nat → Nat
  | 0 => 2 ^ r
  | k + 1 => gr g (wk g r k) 12
/-- a door leads from y to x -/
def adj (g : Nat → Int32) (d y x : Nat) : Prop := ¬ g (57 + 10 * d + 5) ≤ 0 ∧ ((y = gN g (57 + 10 * d + 0) ∧ x = gN g (57 + 10 * d + 1)) ∨ (y = gN g (57 + 10 * d + 1) ∧ gN g (57 + 10 * d + 1) ≠ 8 ∧ x = gN g (57 + 10 * d + 0)))
theorem tb_or (u c x : Nat) : (u ||| 2 ^ c).testBit x = true ↔ u.testBit x = true ∨ x = c := by
  rw [Nat.testBit_or, Bool.or_eq_true, Nat.testBit_two_pow, decide_eq_true_eq]
  constructor
  · rintro (h | h)
    · exact Or.inl h
    · exact Or.inr h.symm
  · rintro (h | h)
    · exact Or.inl h
    · exact Or.inr h.symm
theorem gr1_bit (g : Nat → Int32) (w d u x : Nat) : (gr1 g w d u).testBit x = true ↔ u.testBit x = true ∨ ∃ y, w.testBit y = true ∧ adj g d y x := by
  unfold gr1 adj
  by_cases ho : g (57 + 10 * d + 5) ≤ 0
  · rw [if_pos ho]
    exact ⟨Or.inl, fun h => h.elim id (fun ⟨y, _, h2, _⟩ => absurd ho h2)⟩
  · rw [if_neg ho]
    by_cases hb : w.testBit (gN g (57 + 10 * d + 1)) = true ∧ gN g (57 + 10 * d + 1) ≠ 8
    · rw [if_pos hb, tb_or]
      by_cases ha : w.testBit (gN g (57 + 10 * d + 0)) = true
      · rw [if_pos ha, tb_or]
        constructor
        · rintro ((h | h) | h)
          · exact Or.inl h
          · exact Or.inr ⟨_, ha, ho, Or.inl ⟨rfl, h⟩⟩
          · exact Or.inr ⟨_, hb.1, ho, Or.inr ⟨rfl, hb.2, h⟩⟩
        · rintro (h | ⟨y, h1, h2, ⟨h3, h4⟩ | ⟨h3, h4, h5⟩⟩)
          · exact Or.inl (Or.inl h)
          · exact Or.inl (Or.inr h4)
          · exact Or.inr h5
      · rw [if_neg ha]
        constructor
        · rintro (h | h)
          · exact Or.inl h
          · exact Or.inr ⟨_, hb.1, ho, Or.inr ⟨rfl, hb.2, h⟩⟩
        · rintro (h | ⟨y, h1, h2, ⟨h3, h4⟩ | ⟨h3, h4, h5⟩⟩)
          · exact Or.inl h
          · exact absurd (h3 ▸ h1) ha
          · exact Or.inr h5
    · rw [if_neg hb]
      by_cases ha : w.testBit (gN g (57 + 10 * d + 0)) = true
      · rw [if_pos ha, tb_or]
        constructor
        · rintro (h | h)
          · exact Or.inl h
          · exact Or.inr ⟨_, ha, ho, Or.inl ⟨rfl, h⟩⟩
        · rintro (h | ⟨y, h1, h2, ⟨h3, h4⟩ | ⟨h3, h4, h5⟩⟩)
          · exact Or.inl h
          · exact Or.inr h4
          · exact absurd ⟨h3 ▸ h1, h4⟩ hb
      · rw [if_neg ha]
        constructor
        · exact Or.inl
        · rintro (h | ⟨y, h1, h2, ⟨h3, h4⟩ | ⟨h3, h4, h5⟩⟩)
          · exact h
          · exact absurd (h3 ▸ h1) ha
          · exact absurd ⟨h3 ▸ h1, h4⟩ hb
theorem gr_bit (g : Nat → Int32) (w x : Nat) : ∀ m, (gr g w m).testBit x = true ↔ w.testBit x = true ∨ ∃ d y, d < m ∧ w.testBit y = true ∧ adj g d y x := by
  intro m
  induction m with
  | zero => exact ⟨Or.inl, fun h => h.elim id (fun ⟨d, y, h1, _⟩ => absurd h1 (Nat.not_lt_zero d))⟩
  | succ m ih =>
    rw [gr, gr1_bit, ih]
    constructor
    · rintro ((h | ⟨d, y, h1, h2⟩) | ⟨y, h2⟩)
      · exact Or.inl h
      · exact Or.inr ⟨d, y, by omega, h2⟩
      · exact Or.inr ⟨m, y, by omega, h2⟩
    · rintro (h | ⟨d, y, h1, h2⟩)
      · exact Or.inl (Or.inl h)
      · by_cases e : d = m
        · subst e; exact Or.inr ⟨y, h2⟩
        · exact Or.inl (Or.inr ⟨d, y, by omega, h2⟩)
theorem wk_mono (g : Nat → Int32) (r x : Nat) : ∀ k d, (wk g r k).testBit x = true → (wk g r (k + d)).testBit x = true := by
  intro k d h
  induction d with
  | zero => exact h
  | succ d ih =>
    rw [← Nat.add_assoc, wk, gr_bit]
    exact Or.inl ih
/-- closed doors that are not there -/
theorem adj_nd {nr nd np st : Nat} {g : Nat → Int32} (hI : INV nr nd np st g) {d y x : Nat} (hd : d < 12) (h : adj g d y x) : d < nd ∧ y < 9 ∧ x < 9 := by
  have hnr := hI.1.2
  by_cases hn : d < nd
  · obtain ⟨a, ha, ha8, -⟩ := INV_side hI hn (s := 0) (by decide)
    obtain ⟨b, hb, hb8, -⟩ := INV_side hI hn (s := 1) (by decide)
    obtain ⟨-, h2⟩ := h
    rw [gN_of ha (by omega), gN_of hb (by omega)] at h2
    exact ⟨hn, by omega, by omega⟩
  · exfalso
    apply h.1
    rw [((hI.2.2.2.2.2.1 d hd).2 (by omega)).1 5 (by decide)]
    decide
def sumN (f : Nat → Nat) : Nat → Nat
  | 0 => 0
  | n + 1 => sumN f n + f n
theorem sumN_le {f h : Nat → Nat} : ∀ n, (∀ i, i < n → f i ≤ h i) → sumN f n ≤ sumN h n := by
  intro n
  induction n with
  | zero => intro _; exact Nat.le_refl _
  | succ n ih =>
    intro hh
    have := ih (fun i hi => hh i (by omega))
    have := hh n (by omega)
    show sumN f n + f n ≤ sumN h n + h n
    omega
theorem sumN_lt {f h : Nat → Nat} : ∀ n, (∀ i, i < n → f i ≤ h i) → (∃ i, i < n ∧ f i < h i) → sumN f n < sumN h n := by
  intro n
  induction n with
  | zero => rintro _ ⟨i, h1, _⟩; exact absurd h1 (Nat.not_lt_zero i)
  | succ n ih =>
    rintro hh ⟨i, h1, h2⟩
    show sumN f n + f n < sumN h n + h n
    by_cases e : i = n
    · subst e
      have := sumN_le (f := f) (h := h) i (fun j hj => hh j (by omega))
      omega
    · have := ih (fun j hj => hh j (by omega)) ⟨i, by omega, h2⟩
      have := hh n (by omega)
      omega
def cntW (w : Nat) : Nat := sumN (fun x => (w.testBit x).toNat) 9
theorem cntW_9 (w : Nat) : cntW w ≤ 9 := by
  have h : sumN (fun x => (w.testBit x).toNat) 9 ≤ sumN (fun _ => 1) 9 := sumN_le 9 (fun i _ => Bool.toNat_le _)
  exact h
/-- what is reached at all is reached behind eight doors -/
theorem wk_stable {nr nd np st : Nat} {g : Nat → Int32} (hI : INV nr nd np st g) {r : Nat} (hr : r < 9) {x : Nat} (hx : x < 9) {m : Nat} (h : (wk g r m).testBit x = true) : ∃ k, k ≤ 8 ∧ (wk g r k).testBit x = true := by
  -- some step among the first nine brings nothing new
  have ex : ∃ k, k ≤ 8 ∧ ∀ y, y < 9 → (wk g r (k + 1)).testBit y = true → (wk g r k).testBit y = true := by
    apply Classical.byContradiction
    intro hn
    have step : ∀ k, k ≤ 9 → k + 1 ≤ cntW (wk g r k) := by
      intro k
      induction k with
      | zero =>
        intro _
        have h0 : sumN (fun _ => 0) 9 < cntW (wk g r 0) := sumN_lt 9 (fun _ _ => Nat.zero_le _) ⟨r, hr, by
          show 0 < ((2 ^ r).testBit r).toNat
          rw [Nat.testBit_two_pow_self]
          decide⟩
        omega
      | succ k ih =>
        intro hk
        have h1 := ih (by omega)
        have h2 : cntW (wk g r k) < cntW (wk g r (k + 1)) := by
          refine sumN_lt 9 (fun i _ => ?_) ?_
          · cases hb : (wk g r k).testBit i with
            | false => exact Nat.zero_le _
            | true =>
              have := wk_mono g r i k 1 hb
              show true.toNat ≤ ((wk g r (k + 1)).testBit i).toNat
              rw [this]
              exact Nat.le_refl _
          · apply Classical.byContradiction
            intro hn2
            apply hn
            refine ⟨k, by omega, fun y hy hb => ?_⟩
            cases hc : (wk g r k).testBit y with
            | true => rfl
            | false =>
              exfalso
              apply hn2
              refine ⟨y, hy, ?_⟩
              show ((wk g r k).testBit y).toNat < ((wk g r (k + 1)).testBit y).toNat
              rw [hb, hc]
              decide
        omega
    have a9 := step 9 (Nat.le_refl _)
    have := cntW_9 (wk g r 9)
    omega
  obtain ⟨k, hk, hst⟩ := ex
  refine ⟨k, hk, ?_⟩
  have all : ∀ d y, y < 9 → (wk g r (k + d)).testBit y = true → (wk g r k).testBit y = true := by
    intro d
    induction d with
    | zero => intro y _ h; exact h
    | succ d ih =>
      intro y hy hb
      rw [← Nat.add_assoc, wk, gr_bit] at hb
      rcases hb with hb | ⟨d', z, h1, h2, h3⟩
      · exact ih y hy hb
      · obtain ⟨a1, a2, a3⟩ := adj_nd hI h1 h3
        refine hst y hy ?_
        rw [wk, gr_bit]
        exact Or.inr ⟨d', z, h1, ih z a2 h2, h3⟩
  by_cases hm : m ≤ k
  · have := wk_mono g r x m (k - m) h
    rw [show m + (k - m) = k by omega] at this
    exact this
  · exact all (m - k) x hx (by rw [show k + (m - k) = m by omega]; exact h)
/-- one door relaxed -/
theorem far_step {nr nd np st : Nat} {g f : Nat → Int32} (hI : INV nr nd np st g) {d : Nat} (hd : d < nd) (hf : ∀ y, y < 9 → f y = nI (gN f y) ∧ gN f y ≤ 99) : (∀ y, y < 9 → farS g f d y = nI (gN (farS g f d) y) ∧ gN (farS g f d) y ≤ gN f y) ∧ (∀ y x, adj g d y x → gN (farS g f d) x ≤ gN f y + 1) ∧ ∀ x, x < 9 → gN (farS g f d) x = gN f x ∨ ∃ y, y < 9 ∧ adj g d y x ∧ gN (farS g f d) x = gN (farS g f d) y + 1 ∧ gN (farS g f d) x < gN f x := by
  have hnr := hI.1.2
  have hnd := hI.2.1.2
  obtain ⟨sa, sb, ar, sp, de, o, t, l, ⟨g0, g0'⟩, ⟨g1, g1'⟩, hab, -⟩ := (hI.2.2.2.2.2.1 d (by omega)).1 hd
  have ea : gN g (57 + 10 * d + 0) = sa := gN_of g0 (by omega)
  have eb : gN g (57 + 10 * d + 1) = sb := gN_of g1 (by omega)
  unfold farS adj
  rw [ea, eb]
  by_cases ho : g (57 + 10 * d + 5) ≤ 0
  · rw [if_pos ho]
    exact ⟨fun y hy => ⟨(hf y hy).1, Nat.le_refl _⟩, fun y x h => absurd ho h.1, fun x hx => Or.inl rfl⟩
  · rw [if_neg ho]
    obtain ⟨fa, fa9⟩ := hf sa (by omega)
    obtain ⟨fb, fb9⟩ := hf sb (by omega)
    -- the numbers behind
    have hA : farA f sa sb = nI (if sb ≠ 8 ∧ gN f sb + 1 < gN f sa then gN f sb + 1 else gN f sa) := by
      unfold farA
      rw [fa, fb, nI_add]
      by_cases h8 : sb = 8
      · rw [if_neg (fun z => z.1 h8), if_neg (fun z => z.1 h8)]
      · by_cases hl : gN f sb + 1 < gN f sa
        · rw [if_pos ⟨h8, nI_lt hl (by omega)⟩, if_pos ⟨h8, hl⟩]
        · rw [if_neg (fun z => hl ((nI_ltI (by omega) (by omega)).mp z.2)), if_neg (fun z => hl z.2)]
    generalize hva : (if sb ≠ 8 ∧ gN f sb + 1 < gN f sa then gN f sb + 1 else gN f sa) = va at hA
    have va9 : va ≤ gN f sa := by rw [← hva]; split <;> omega
    have hB : farB (upd f sa (farA f sa sb)) sa sb = nI (if va + 1 < gN f sb then va + 1 else gN f sb) := by
      unfold farB
      rw [upd_s, upd_n _ _ (Ne.symm hab), hA, fb, nI_add]
      by_cases hl : va + 1 < gN f sb
      · rw [if_pos (nI_lt hl (by omega)), if_pos hl]
      · rw [if_neg (fun z => hl ((nI_ltI (by omega) (by omega)).mp z)), if_neg hl]
    generalize hvb : (if va + 1 < gN f sb then va + 1 else gN f sb) = vb at hB
    have vb9 : vb ≤ gN f sb := by rw [← hvb]; split <;> omega
    have ua : farU f sa sb sa = nI va := by rw [farU, upd_n _ _ hab, upd_s, hA]
    have ub : farU f sa sb sb = nI vb := by rw [farU, upd_s, hB]
    have uo : ∀ y, y ≠ sa → y ≠ sb → farU f sa sb y = f y := fun y h1 h2 => by rw [farU, upd_n _ _ h2, upd_n _ _ h1]
    have na : gN (farU f sa sb) sa = va := gN_of ua (by omega)
    have nb : gN (farU f sa sb) sb = vb := gN_of ub (by omega)
    have no : ∀ y, y ≠ sa → y ≠ sb → gN (farU f sa sb) y = gN f y := fun y h1 h2 => gN_congr (uo y h1 h2)
    refine ⟨fun y hy => ?_, fun y x h => ?_, fun x hx => ?_⟩
    · by_cases y1 : y = sa
      · subst y1; rw [na]; exact ⟨ua, va9⟩
      · by_cases y2 : y = sb
        · subst y2; rw [nb]; exact ⟨ub, vb9⟩
        · rw [no y y1 y2, uo y y1 y2]; exact ⟨(hf y hy).1, Nat.le_refl _⟩
    · obtain ⟨-, ⟨rfl, rfl⟩ | ⟨rfl, h8, rfl⟩⟩ := h
      · rw [nb, ← hvb]; split <;> omega
      · rw [na, ← hva]; split <;> omega
    · by_cases y1 : x = sa
      · subst y1
        rw [na]
        by_cases hc : sb ≠ 8 ∧ gN f sb + 1 < gN f x
        · rw [if_pos hc] at hva
          refine Or.inr ⟨sb, by omega, ⟨ho, Or.inr ⟨rfl, hc.1, rfl⟩⟩, ?_, by omega⟩
          rw [nb, ← hvb, if_neg (by omega)]
          exact hva.symm
        · rw [if_neg hc] at hva
          exact Or.inl hva.symm
      · by_cases y2 : x = sb
        · subst y2
          rw [nb]
          by_cases hc : va + 1 < gN f x
          · rw [if_pos hc] at hvb
            exact Or.inr ⟨sa, by omega, ⟨ho, Or.inl ⟨rfl, rfl⟩⟩, by rw [na]; exact hvb.symm, by omega⟩
          · rw [if_neg hc] at hvb
            exact Or.inl hvb.symm
        · exact Or.inl (no x y1 y2)
/-- what holds of the row of distances: d doors of a pass behind, p passes -/
def farI (g : Nat → Int32) (r p d : Nat) (f : Nat → Int32) : Prop := (∀ y, y < 9 → f y = nI (gN f y) ∧ gN f y ≤ 99) ∧ (∀ y, y < 9 → gN f y = 99 ∨ (wk g r (gN f y)).testBit y = true) ∧ (∀ y, y < 9 → ∀ j, j ≤ p → (wk g r j).testBit y = true → gN f y ≤ j) ∧ ∀ e y x, e < d → x < 9 → adj g e y x → (wk g r p).testBit y = true → gN f x ≤ p + 1
theorem far_init {g : Nat → Int32} {r : Nat} (hr : r < 8) : farI g r 0 0 (far0 r) := by
  have e : ∀ y, gN (far0 r) y = if y = r then 0 else 99 := fun y => by
    by_cases h : y = r
    · rw [if_pos h]; exact gN_of (show far0 r y = nI 0 from if_pos h) (by decide)
    · rw [if_neg h]; exact gN_of (show far0 r y = nI 99 from if_neg h) (by decide)
  refine ⟨fun y hy => ?_, fun y hy => ?_, fun y hy j hj hb => ?_, fun e y x h1 _ _ _ => absurd h1 (Nat.not_lt_zero e)⟩
  · rw [e]
    by_cases h : y = r
    · rw [if_pos h]; exact ⟨if_pos h, by decide⟩
    · rw [if_neg h]; exact ⟨if_neg h, by decide⟩
  · rw [e]
    by_cases h : y = r
    · rw [if_pos h, h]
      exact Or.inr Nat.testBit_two_pow_self
    · rw [if_neg h]; exact Or.inl rfl
  · have j0 : j = 0 := by omega
    subst j0
    rw [wk, Nat.testBit_two_pow, decide_eq_true_eq] at hb
    rw [e, if_pos hb.symm]
    exact Nat.le_refl _
theorem far_door {nr nd np st : Nat} {g f : Nat → Int32} (hI : INV nr nd np st g) {r p d : Nat} (hd : d < nd) (h : farI g r p d f) : farI g r p (d + 1) (farS g f d) := by
  have hnd := hI.2.1.2
  obtain ⟨h1, h2, h3, h4⟩ := h
  obtain ⟨s1, s2, s3⟩ := far_step hI hd h1
  have b1 : ∀ y, y < 9 → farS g f d y = nI (gN (farS g f d) y) ∧ gN (farS g f d) y ≤ 99 := fun y hy => ⟨(s1 y hy).1, by have := (s1 y hy).2; have := (h1 y hy).2; omega⟩
  -- soundness, by the size of the number
  have sound : ∀ m y, y < 9 → gN (farS g f d) y = m → m = 99 ∨ (wk g r m).testBit y = true := by
    intro m
    induction m with
    | zero =>
      intro y hy hm
      rcases s3 y hy with e | ⟨z, z1, z2, z3, z4⟩
      · have := h2 y hy
        rw [← e, hm] at this
        exact this
      · omega
    | succ m ih =>
      intro y hy hm
      rcases s3 y hy with e | ⟨z, z1, z2, z3, z4⟩
      · have := h2 y hy
        rw [← e, hm] at this
        exact this
      · have hzm : gN (farS g f d) z = m := by omega
        rcases ih z z1 hzm with q | q
        · have := (b1 y hy).2
          omega
        · refine Or.inr ?_
          rw [wk, gr_bit]
          exact Or.inr ⟨d, z, by omega, q, z2⟩
  refine ⟨b1, fun y hy => sound _ y hy rfl, fun y hy j hj hb => Nat.le_trans (s1 y hy).2 (h3 y hy j hj hb), fun e y x he hx ha hb => ?_⟩
  by_cases ed : e = d
  · subst ed
    have hy := (adj_nd hI (by omega) ha).2.1
    have := s2 y x ha
    have := h3 y hy p (Nat.le_refl _) hb
    omega
  · exact Nat.le_trans (s1 x hx).2 (h4 e y x (by omega) hx ha hb)
theorem far_pass {nr nd np st : Nat} {g f : Nat → Int32} (hI : INV nr nd np st g) {r p : Nat} (h : farI g r p nd f) : farI g r (p + 1) 0 f := by
  obtain ⟨h1, h2, h3, h4⟩ := h
  refine ⟨h1, h2, fun y hy j hj hb => ?_, fun e y x he _ _ _ => absurd he (Nat.not_lt_zero e)⟩
  by_cases e : j ≤ p
  · exact h3 y hy j e hb
  · have ej : j = p + 1 := by omega
    subst ej
    rw [wk, gr_bit] at hb
    rcases hb with hb | ⟨d, z, q1, q2, q3⟩
    · exact Nat.le_trans (h3 y hy p (Nat.le_refl _) hb) (Nat.le_succ p)
    · obtain ⟨a1, a2, a3⟩ := adj_nd hI q1 q3
      exact h4 d z y a1 hy q3 q2
theorem far_all {nr nd np st : Nat} {g : Nat → Int32} (hI : INV nr nd np st g) {r : Nat} (hr : r < 8) (h0 : 0 < nd) : ∀ p, farI g r p 0 (farN g r nd (p * nd)) := by
  intro p
  induction p with
  | zero =>
    rw [Nat.zero_mul]
    exact far_init hr
  | succ p ih =>
    have h : ∀ d, d ≤ nd → farI g r p d (farN g r nd (p * nd + d)) := by
      intro d
      induction d with
      | zero => intro _; exact ih
      | succ d ih2 =>
        intro hd
        have := far_door hI (by omega) (ih2 (by omega))
        rw [← Nat.add_assoc, farN, show (p * nd + d) % nd = d by rw [Nat.add_comm, Nat.add_mul_mod_self_right, Nat.mod_eq_of_lt (by omega)]]
        exact this
    rw [Nat.succ_mul]
    exact far_pass hI (h nd (Nat.le_refl _))
/-- the class's search -/
def wayC (g : Nat → Int32) (r y : Nat) : Nat → Nat → Int32
  | 0, _ => -4
  | f + 1, k => if (wk g r k).testBit y = true then nI k else wayC g r y f (k + 1)
theorem wayC_s {g : Nat → Int32} {r y : Nat} {m : Nat} (hb : (wk g r m).testBit y = true) (hn : ∀ j, j < m → ¬ (wk g r j).testBit y = true) : ∀ f k, k ≤ m → m < k + f → wayC g r y f k = nI m := by
  intro f
  induction f with
  | zero => intro k h1 h2; exfalso; omega
  | succ f ih =>
    intro k h1 h2
    rw [wayC]
    by_cases e : k = m
    · subst e; rw [if_pos hb]
    · rw [if_neg (hn k (by omega))]
      exact ih (k + 1) (by omega) (by omega)
theorem wayC_n {g : Nat → Int32} {r y : Nat} : ∀ f k, (∀ j, k ≤ j → j < k + f → ¬ (wk g r j).testBit y = true) → wayC g r y f k = -4 := by
  intro f
  induction f with
  | zero => intro k _; rfl
  | succ f ih =>
    intro k h
    rw [wayC, if_neg (h k (Nat.le_refl _) (by omega))]
    exact ih (k + 1) (fun j h1 h2 => h j (by omega) (by omega))
theorem way_eq {nr nd np st : Nat} {g : Nat → Int32} (hI : INV nr nd np st g) {r y : Nat} (hr : r < 8) (hy : y < 9) : wayC g r y 9 0 = wayQ g r y := by
  have hnd := hI.2.1.2
  have hgd : gN g 1 = nd := gN_of hI.2.1.1 (by omega)
  -- the row of distances behind all passes
  have key : ∃ f, farN g r nd (9 * nd) = f ∧ (f y = nI (gN f y) ∧ gN f y ≤ 99) ∧ (gN f y = 99 ∨ (wk g r (gN f y)).testBit y = true) ∧ ∀ j, j ≤ 8 → (wk g r j).testBit y = true → gN f y ≤ j := by
    by_cases h0 : nd = 0
    · subst h0
      refine ⟨_, rfl, ?_⟩
      have h := far_init (g := g) hr
      refine ⟨h.1 y hy, h.2.1 y hy, fun j hj hb => ?_⟩
      have hw : ∀ j, (wk g r j).testBit y = true → (wk g r 0).testBit y = true := by
        intro j
        induction j with
        | zero => intro h; exact h
        | succ j ih =>
          intro hb
          rw [wk, gr_bit] at hb
          rcases hb with hb | ⟨d, z, q1, q2, q3⟩
          · exact ih hb
          · exact absurd (adj_nd hI q1 q3).1 (Nat.not_lt_zero d)
      exact Nat.le_trans (h.2.2.1 y hy 0 (Nat.le_refl _) (hw j hb)) (Nat.zero_le _)
    · have h := far_all hI hr (by omega) 9
      exact ⟨_, rfl, h.1 y hy, h.2.1 y hy, fun j hj hb => h.2.2.1 y hy j (by omega) hb⟩
  obtain ⟨f, hf, ⟨f1, f2⟩, f3, f4⟩ := key
  have hq : wayQ g r y = if gN f y = 99 then -4 else nI (gN f y) := by
    rw [wayQ, hgd, hf]
    by_cases h : gN f y = 99
    · rw [if_pos h, if_pos (by rw [f1, h])]
    · rw [if_neg h, if_neg (fun z => h (by rw [f1] at z; exact (nI_eq (by omega) (by decide)).mp z))]
      exact f1
  rw [hq]
  by_cases hex : ∃ k, k ≤ 8 ∧ (wk g r k).testBit y = true
  · obtain ⟨m, ⟨hm8, hm⟩, hmin⟩ := pk_least (fun k => k ≤ 8 ∧ (wk g r k).testBit y = true) hex
    have hle := f4 m hm8 hm
    have heq : gN f y = m := by
      rcases f3 with z | z
      · omega
      · by_cases e : gN f y = m
        · exact e
        · exact absurd ⟨by omega, z⟩ (hmin (gN f y) (by omega))
    rw [heq, if_neg (by omega)]
    exact wayC_s hm (fun j hj z => hmin j hj ⟨by omega, z⟩) 9 0 (Nat.zero_le _) (by omega)
  · rw [if_pos]
    · exact wayC_n 9 0 (fun j _ hj z => hex ⟨j, by omega, z⟩)
    · rcases f3 with z | z
      · exact z
      · exact absurd (wk_stable hI (by omega) hy z) hex

