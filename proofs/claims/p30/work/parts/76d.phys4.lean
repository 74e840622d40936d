/-! WHAT IS KEPT of a house in this law -/
/-- cells that no step changes -/
def stl (c : Nat) : Prop := c ≠ 2 ∧ c ≠ 3 ∧ c ≠ 4 ∧ c ≠ 6 ∧ c < 177 ∧ (9 ≤ c → c < 57 → (c - 9) % 6 = 0 ∨ (c - 9) % 6 = 1 ∨ (c - 9) % 6 = 5) ∧ (57 ≤ c → (c - 57) % 10 < 5 ∨ (c - 57) % 10 = 7)
theorem stl_r {r w : Nat} (hr : r < 8) (hw : w = 0 ∨ w = 1) : stl (9 + 6 * r + w) := by unfold stl; omega
theorem stl_d {d w : Nat} (hd : d < 12) (hw : w < 5) : stl (57 + 10 * d + w) := by unfold stl; omega
theorem sendN_still {nr nd np st : Nat} (fl : Nat → Int32) {g : Nat → Int32} (hI : INV nr nd np st g) {c : Nat} (hc : stl c) : ∀ m, m ≤ 2 * nd → sendN fl g m c = g c := by
  unfold stl at hc
  intro m
  induction m with
  | zero => intro _; rfl
  | succ m ih =>
    intro hm
    have hnd := hI.2.1.2
    have hIm : INV nr nd np st (sendN fl g m) := INV_free hI (sendN_fre hI m (by omega))
    obtain ⟨b, hb, hb8, -⟩ := INV_side hIm (d := m / 2) (s := m % 2) (by omega) (by omega)
    obtain ⟨de, hde, hde5⟩ := INV_delay hIm (d := m / 2) (by omega)
    rw [sendN, sendR, gN_of hde (by omega), upd_n _ _ (by omega), snd2, upd_n _ _ (by omega), snd1, gN_of hb (by omega)]
    split
    · exact ih (by omega)
    · rw [upd_n _ _ (by omega)]
      exact ih (by omega)
theorem arrN_still {nr nd np st : Nat} {g : Nat → Int32} (hI : INV nr nd np st g) {c : Nat} (hs : stl c) : ∀ m, m ≤ 2 * nd → arrN g m c = g c := by
  unfold stl at hs
  intro m
  induction m with
  | zero => intro _; rfl
  | succ m ih =>
    intro hm
    have hnd := hI.2.1.2
    have hIm : INV nr nd np st (arrN g m) := INV_free hI (arrN_fre hI m (by omega))
    obtain ⟨b, hb, hb8, -⟩ := INV_side hIm (d := m / 2) (s := 1 - m % 2) (by omega) (by omega)
    have hc : ¬ c = (if b = 8 then 4 else 9 + 6 * b + 2) := by split <;> omega
    rw [arrN, arrR_j (b := b) (by omega) (by omega) (gN_of hb (by omega)) hb8, if_neg hc, if_neg (by omega), if_neg (by omega)]
    exact ih (by omega)
theorem aimL_b (t : Int32) {j : Nat} (hj : ∀ x : Nat, x < 12 → j ≠ 57 + 10 * x + 6) : ∀ (l : List zE) (h : Nat → Int32), (∀ e, e ∈ l → smE e) → aimL t h l j = h j
  | [], _, _ => rfl
  | e :: l, h, hs => by
    show aimL t (aimE t h e) l j = h j
    rw [aimL_b t hj l _ (fun e' he => hs e' (List.mem_cons_of_mem _ he)), aimE]
    split
    · exact upd_n _ _ (hj _ (hs e List.mem_cons_self).1)
    · rfl
theorem giveL_b (t : Int32) {j : Nat} (hj : ∀ x : Nat, x < 8 → j ≠ 9 + 6 * x + 2 ∧ j ≠ 9 + 6 * x + 4) : ∀ (l : List zE) (h : Nat → Int32), (∀ e, e ∈ l → smE e) → giveL t h l j = h j
  | [], _, _ => rfl
  | e :: l, h, hs => by
    show giveL t (giveE t h e) l j = h j
    rw [giveL_b t hj l _ (fun e' he => hs e' (List.mem_cons_of_mem _ he)), giveE]
    split
    · next z =>
      have hx := hj _ ((hs e List.mem_cons_self).2 z.1)
      rw [upd_n _ _ hx.2, upd_n _ _ hx.1]
    · rfl
theorem step_still {nr nd np st : Nat} {g : Nat → Int32} (hI : INV nr nd np st g) (hst : st < 100000) {c : Nat} (hs : stl c) : mS1 g c = g c ∧ mS2 g c = g c ∧ mS3 g c = g c ∧ mS4 g c = g c ∧ mS5 g c = g c ∧ mS6 g c = g c ∧ mS7 g c = g c ∧ mStep g c = g c := by
  obtain ⟨np2, np4, ⟨i1, e1, p1⟩, ⟨i2, e2, p2, s2⟩, ⟨i3, e3, p3⟩, ⟨i4, e4, p4, s4⟩, ⟨i5, e5⟩, ⟨i6, e6⟩, ⟨i7, e7⟩, -⟩ := step_facts hI hst
  have hs' := hs
  unfold stl at hs'
  have scc : sc c := by unfold sc; omega
  have q1 : mS1 g c = g c := by rw [e1]; exact oldN_o _ _ _ (by omega)
  have q2 : mS2 g c = g c := ((s2 c scc).trans (aimL_b _ (fun x _ => by omega) _ _ (INV_sm hI))).trans q1
  have q3 : mS3 g c = g c := (by rw [e3]; exact movN_o _ _ _ (by omega) (fun i _ => by omega) : mS3 g c = mS2 g c).trans q2
  have q4 : mS4 g c = g c := ((s4 c scc).trans (giveL_b _ (fun x _ => by omega) _ _ (INV_sm i3))).trans q3
  have q5 : mS5 g c = g c := (by rw [e5]; exact absN_o _ _ _ (fun i hi => by have := hI.1.2; omega) : mS5 g c = mS4 g c).trans q4
  have q6 : mS6 g c = g c := (by rw [e6]; exact sendN_still _ i5 hs _ (Nat.le_refl _) : mS6 g c = mS5 g c).trans q5
  have q7 : mS7 g c = g c := (by rw [e7]; exact arrN_still i6 hs _ (Nat.le_refl _) : mS7 g c = mS6 g c).trans q6
  have q8 : mStep g c = mS7 g c := by rw [mStep]; exact upd_n _ _ (by omega)
  exact ⟨q1, q2, q3, q4, q5, q6, q7, q8.trans q7⟩
def rmE (st : Nat) (e : zE) : Int := if e.2.1 = nI 0 then e.1.toInt + e.2.2.2.1.toInt - st else 0
def pdE (st : Nat) (e : zE) : Int := if e.2.1 = nI 0 then e.2.2.2.2.toInt * (if e.1.toInt ≤ st then e.1.toInt + e.2.2.2.1.toInt - st else e.2.2.2.1.toInt) else 0
theorem mul_1 (a b : Int) : a * b = a * (b - 1) + a := by rw [Int.mul_sub, Int.mul_one]; omega
theorem nI01 : ¬ nI 0 = 1 := by decide
theorem nI10 : ¬ nI 1 = nI 0 := by decide
/-- an entry's step -/
theorem ent_step {nr nd st : Nat} {e : zE} (hE : EOK nr nd st e) (hst : st < 100000) : pdE st e = muT (nI st) e + (if keepT (nI st) e = true then (if keepS (nI st) e = true then pdE (st + 1) e else 0) else 0) ∧ rmE st e ≤ (if keepT (nI st) e = true then (if keepS (nI st) e = true then rmE (st + 1) e else 0) else 0) + 1 ∧ 0 ≤ pdE st e := by
  obtain ⟨f, kd, wh, sp, mu, rfl, hf, hc⟩ := hE
  have tf : (nI f).toInt = (f : Int) := nI_toInt (by omega)
  rcases hc with ⟨rfl, h1, h2, h3, h4, h5⟩ | ⟨rfl, h1, rfl, h3, h4⟩
  · have ts : (nI sp).toInt = (sp : Int) := nI_toInt (by omega)
    have tm : (nI mu).toInt = (mu : Int) := nI_toInt (by omega)
    have hT : keepT (nI st) (nI f, nI 0, nI wh, nI sp, nI mu) = true := by
      unfold keepT
      rw [decide_eq_false (fun z => nI01 z.1)]
      rfl
    have hlast : nI f + nI sp - 1 = nI (f + sp - 1) := by
      rw [nI_add, show f + sp = f + sp - 1 + 1 by omega, nI_pred]
      rfl
    have hhe : heE (nI st) (nI f, nI 0, nI wh, nI sp, nI mu) ↔ f ≤ st := by
      constructor
      · intro z
        have := z.2.1
        exact Nat.not_lt.mp (fun y => this (nI_lt y (by omega)))
      · intro z
        exact ⟨nI_0, nI_nlt z (by omega), by
          show ¬ nI f + nI sp - 1 < nI st
          rw [hlast]; exact nI_nlt (by omega) (by omega)⟩
    have hen : enE (nI st) (nI f, nI 0, nI wh, nI sp, nI mu) ↔ f ≤ st ∧ f + sp = st + 1 := by
      constructor
      · intro z
        refine ⟨hhe.mp z.1, ?_⟩
        have z2 : nI f + nI sp - 1 = nI st := z.2
        rw [hlast] at z2
        have := (nI_eq (by omega) (by omega)).mp z2
        omega
      · rintro ⟨z1, z2⟩
        refine ⟨hhe.mpr z1, ?_⟩
        show nI f + nI sp - 1 = nI st
        rw [hlast, show f + sp - 1 = st by omega]
    have hmt : muT (nI st) (nI f, nI 0, nI wh, nI sp, nI mu) = if f ≤ st then (mu : Int) else 0 := by
      unfold muT
      by_cases z : f ≤ st
      · rw [if_pos (hhe.mpr z), if_pos z]; exact tm
      · rw [if_neg (fun y => z (hhe.mp y)), if_neg z]
    have hp : ∀ s : Nat, pdE s (nI f, nI 0, nI wh, nI sp, nI mu) = (mu : Int) * (if (f : Int) ≤ s then (f : Int) + sp - s else sp) := by
      intro s
      unfold pdE
      rw [if_pos rfl]
      show (nI mu).toInt * (if (nI f).toInt ≤ (s : Int) then (nI f).toInt + (nI sp).toInt - s else (nI sp).toInt) = _
      rw [tf, ts, tm]
    have hr : ∀ s : Nat, rmE s (nI f, nI 0, nI wh, nI sp, nI mu) = (f : Int) + sp - s := by
      intro s
      unfold rmE
      rw [if_pos rfl]
      show (nI f).toInt + (nI sp).toInt - s = _
      rw [tf, ts]
    rw [if_pos hT, if_pos hT, hmt, hp, hp, hr, hr]
    by_cases hz : f ≤ st
    · rw [if_pos hz, if_pos (show (f : Int) ≤ (st : Int) by omega), if_pos (show (f : Int) ≤ ((st + 1 : Nat) : Int) by omega)]
      have hnn : 0 ≤ (mu : Int) * ((f : Int) + sp - st) := Int.mul_nonneg (by omega) (by omega)
      by_cases he : f + sp = st + 1
      · have hS : ¬ keepS (nI st) (nI f, nI 0, nI wh, nI sp, nI mu) = true := by
          unfold keepS
          rw [decide_eq_true (hen.mpr ⟨hz, he⟩)]
          decide
        rw [if_neg hS, if_neg hS]
        refine ⟨?_, by omega, hnn⟩
        rw [show (f : Int) + sp - st = 1 by omega]
        omega
      · have hS : keepS (nI st) (nI f, nI 0, nI wh, nI sp, nI mu) = true := by
          unfold keepS
          rw [decide_eq_false (fun z => he (hen.mp z).2)]
          rfl
        rw [if_pos hS, if_pos hS]
        refine ⟨?_, by omega, hnn⟩
        rw [mul_1 (mu : Int) ((f : Int) + sp - st), show (f : Int) + sp - ((st + 1 : Nat) : Int) = (f : Int) + sp - st - 1 by omega]
        omega
    · have hS : keepS (nI st) (nI f, nI 0, nI wh, nI sp, nI mu) = true := by
        unfold keepS
        rw [decide_eq_false (fun z => hz (hen.mp z).1)]
        rfl
      rw [if_pos hS, if_pos hS, if_neg hz, if_neg (show ¬ (f : Int) ≤ (st : Int) by omega)]
      have hnn : 0 ≤ (mu : Int) * (sp : Int) := Int.mul_nonneg (by omega) (by omega)
      refine ⟨?_, by omega, hnn⟩
      split
      · rw [show (f : Int) + sp - ((st + 1 : Nat) : Int) = sp by omega]; omega
      · omega
  · have hp : ∀ s : Nat, pdE s (nI f, nI 1, nI wh, nI 0, nI mu) = 0 := fun s => if_neg nI10
    have hr : ∀ s : Nat, rmE s (nI f, nI 1, nI wh, nI 0, nI mu) = 0 := fun s => if_neg nI10
    have hm : muT (nI st) (nI f, nI 1, nI wh, nI 0, nI mu) = 0 := if_neg (fun z => nI10 (z.1.trans nI_0.symm))
    rw [hp, hp, hr, hr, hm]
    refine ⟨?_, ?_, Int.le_refl _⟩
    · split
      · split <;> rfl
      · rfl
    · split
      · split <;> decide
      · decide

