/-! ABSORBED, ARRIVED, GIVEN -/
theorem absb_v {E a : Nat} (hE : E ≤ 1000000000) (ha : a ≤ 1000) : absb (nI E) (nI a) = nI ((E * a + 999) / 1000) ∧ (E * a + 999) / 1000 ≤ E := by
  have h1 : E * a ≤ E * 1000 := Nat.mul_le_mul_left _ ha
  constructor
  · have h9 : (999 : Int64) = lN 999 := by decide +kernel
    have h0 : (1000 : Int64) = lN 1000 := by decide +kernel
    rw [absb, nI_l (by omega), nI_l (by omega), lN_mul, h9, h0, lN_add, pk_lDiv (by omega) (by decide) (by decide), lN_i]
  · omega
def ABS (nr : Nat) (g : Nat → Int32) : Prop := ∀ r, r < nr → ∃ a : Nat, g (9 + 6 * r + 1) = nI a ∧ a ≤ 1000
theorem ABS_eq {nr : Nat} {g h : Nat → Int32} (hA : ABS nr g) (e : ∀ r, r < nr → h (9 + 6 * r + 1) = g (9 + 6 * r + 1)) : ABS nr h := fun r hr => by rw [e r hr]; exact hA r hr
theorem abs_PB {nr : Nat} {W : Int} {g : Nat → Int32} (hP : PB W g) (hA : ABS nr g) (hnr : nr ≤ 8) : ∀ m, m ≤ nr → PB W (absN g m) := by
  intro m
  induction m with
  | zero => intro _; exact hP
  | succ m ih =>
    intro hm
    have i1 := ih (by omega)
    obtain ⟨a, ha, ha2⟩ := hA m (by omega)
    have ha3 : absN g m (9 + 6 * m + 1) = nI a := by rw [absN_o g m _ (fun i hi => by omega)]; exact ha
    rw [absN, absR, ha3]
    generalize absN g m = h at i1 ⊢
    obtain ⟨p1, p2, p3⟩ := PB_N i1 (pos_e (show m < 8 by omega))
    obtain ⟨v1, v2⟩ := absb_v p2 ha2
    rw [← p1] at v1
    have fi : (nI ((gN h (9 + 6 * m + 2) * a + 999) / 1000)).toInt = (((gN h (9 + 6 * m + 2) * a + 999) / 1000 : Nat) : Int) := nI_toInt (by omega)
    rw [v1]
    exact (PB_mv i1 (pos_e (by omega)) (pos_a (by omega)) (by omega) (by omega) (by omega)).1
theorem arr_PB {nr nd np st : Nat} {W : Int} {g : Nat → Int32} (hI : INV nr nd np st g) (hP : PB W g) : ∀ m, m ≤ 2 * nd → PB W (arrN g m) := by
  intro m
  induction m with
  | zero => intro _; exact hP
  | succ m ih =>
    intro hm
    have i1 := ih (by omega)
    have hnd := hI.2.1.2
    have hIm : INV nr nd np st (arrN g m) := INV_free hI (arrN_fre hI m (by omega))
    obtain ⟨b, hb, hb8, -⟩ := INV_side hIm (d := m / 2) (s := 1 - m % 2) (by omega) (by omega)
    rw [arrN]
    generalize arrN g m = h at i1 hb ⊢
    have hj := fun j => arrR_j (h := h) (d := m / 2) (s := m % 2) (b := b) (by omega) (by omega) (gN_of hb (by omega)) hb8 j
    have ht : posC (if b = 8 then 4 else 9 + 6 * b + 2) := by
      by_cases e : b = 8
      · rw [if_pos e]; exact pos_4
      · rw [if_neg e]; exact pos_e (by omega)
    have hlt : (if b = 8 then 4 else 9 + 6 * b + 2) < 57 := by split <;> omega
    generalize (if b = 8 then 4 else 9 + 6 * b + 2) = t at hj ht hlt
    have hrg : 177 ≤ 177 + 12 * (m / 2) + 6 * (m % 2) ∧ 177 + 12 * (m / 2) + 6 * (m % 2) + 5 < 321 := by omega
    generalize 177 + 12 * (m / 2) + 6 * (m % 2) = a at hj hrg
    have m1 := (PB_mv i1 (a := a) (b := t) (pos_w (by omega) (by omega)) ht (by omega) (v := h a) (i1.1 a (Or.inl (pos_w (by omega) (by omega)))) (Int.le_refl _)).1
    have m2 := PB_sh m1 (a := a) hrg.1 hrg.2 (by rw [upd_n _ _ (by omega), upd_s, Int32.sub_self])
    refine PB_eq m2 (fun c _ => ?_)
    rw [hj c]
    by_cases c1 : c = t
    · rw [if_pos c1, upd_n _ _ (by omega), arr2, if_neg (by omega), c1, upd_s]
    · rw [if_neg c1]
      by_cases c2 : c = a + 5
      · rw [if_pos c2, c2, upd_s]
      · rw [if_neg c2, upd_n _ _ c2, arr2]
        by_cases c3 : a ≤ c ∧ c < a + 5
        · rw [if_pos c3, if_pos c3, upd_n _ _ (by omega), upd_n _ _ (by omega)]
        · rw [if_neg c3, if_neg c3, upd_n _ _ c1, upd_n _ _ (by omega)]
def lsm (f : zE → Int) : List zE → Int
  | [] => 0
  | e :: l => f e + lsm f l
theorem lsm_congr {f h : zE → Int} : ∀ {l : List zE}, (∀ e, e ∈ l → f e = h e) → lsm f l = lsm h l
  | [], _ => rfl
  | e :: l, x => by rw [lsm, lsm, x e List.mem_cons_self, lsm_congr (fun e' he => x e' (List.mem_cons_of_mem _ he))]
theorem lsm_le {f h : zE → Int} : ∀ {l : List zE}, (∀ e, e ∈ l → f e ≤ h e) → lsm f l ≤ lsm h l
  | [], _ => Int.le_refl _
  | e :: l, x => by
    rw [lsm, lsm]
    have := x e List.mem_cons_self
    have := lsm_le (f := f) (h := h) (l := l) (fun e' he => x e' (List.mem_cons_of_mem _ he))
    omega
theorem lsm_add (f h : zE → Int) : ∀ l : List zE, lsm (fun e => f e + h e) l = lsm f l + lsm h l
  | [] => rfl
  | e :: l => by rw [lsm, lsm, lsm, lsm_add f h l]; omega
theorem lsm_c (c : Int) : ∀ l : List zE, lsm (fun _ => c) l = c * l.length
  | [] => by simp [lsm]
  | e :: l => by rw [lsm, lsm_c c l, List.length_cons, Int.natCast_add, Int.mul_add]; omega
theorem lsm_filter (f : zE → Int) (p : zE → Bool) : ∀ l : List zE, lsm f (l.filter p) = lsm (fun e => if p e = true then f e else 0) l
  | [] => rfl
  | e :: l => by
    rw [List.filter_cons, lsm, ← lsm_filter f p l]
    by_cases h : p e = true
    · rw [if_pos h, if_pos h, lsm]
    · rw [if_neg h, if_neg h]; omega
theorem lsm_erase (f : zE → Int) : ∀ (l : List zE) (i : Nat) (e : zE), l[i]? = some e → lsm f (l.eraseIdx i) + f e = lsm f l
  | [], i, e, h => by simp at h
  | a :: l, 0, e, h => by
    simp at h
    subst h
    rw [List.eraseIdx_cons_zero, lsm]; omega
  | a :: l, i + 1, e, h => by
    simp at h
    have := lsm_erase f l i e h
    rw [List.eraseIdx_cons_succ, lsm, lsm]; omega
def muT (t : Int32) (e : zE) : Int := if heE t e then e.2.2.2.2.toInt else 0
theorem give_PB {t : Int32} : ∀ (l : List zE) {W : Int} {h : Nat → Int32}, PB W h → (∀ e ∈ l, heE t e → e.2.2.1.toNatClampNeg < 8 ∧ 0 ≤ e.2.2.2.2.toInt) → W + lsm (muT t) l ≤ 1000000000 → PB (W + lsm (muT t) l) (giveL t h l)
  | [], W, h, hP, _, _ => by rw [lsm, Int.add_zero]; exact hP
  | e :: l, W, h, hP, hl, hW => by
    have hl' : ∀ e' ∈ l, heE t e' → e'.2.2.1.toNatClampNeg < 8 ∧ 0 ≤ e'.2.2.2.2.toInt := fun e' he => hl e' (List.mem_cons_of_mem _ he)
    have hnn : 0 ≤ lsm (muT t) l := by
      have := lsm_le (f := fun _ => 0) (h := muT t) (l := l) (fun e' he => by
        unfold muT
        split
        · next z => exact (hl' e' he z).2
        · exact Int.le_refl _)
      rw [lsm_c] at this
      omega
    rw [lsm] at hW ⊢
    show PB _ (giveL t (giveE t h e) l)
    by_cases hh : heE t e
    · obtain ⟨h1, h2⟩ := hl e List.mem_cons_self hh
      have hm : muT t e = e.2.2.2.2.toInt := by rw [muT, if_pos hh]
      rw [hm] at hW ⊢
      rw [giveE, if_pos hh, ← Int.add_assoc]
      exact give_PB l (PB_gv hP (pos_e h1) (gv_r h1) h2 (by omega)) hl' (by omega)
    · have hm : muT t e = 0 := by rw [muT, if_neg hh]
      rw [hm] at hW ⊢
      rw [giveE, if_neg hh, Int.zero_add]
      exact give_PB l hP hl' (by omega)

