/-! AREAS, and what goes through doors -/
def nsm (f : Nat → Nat) : Nat → Nat
  | 0 => 0
  | n + 1 => nsm f n + f n
theorem nsm_congr {f h : Nat → Nat} : ∀ {n : Nat}, (∀ i, i < n → f i = h i) → nsm f n = nsm h n
  | 0, _ => rfl
  | n + 1, e => by
    rw [nsm, nsm, nsm_congr (fun i hi => e i (by omega)), e n (by omega)]
theorem nsm_mono {f : Nat → Nat} {m : Nat} : ∀ {n : Nat}, m ≤ n → nsm f m ≤ nsm f n
  | 0, h => by rw [Nat.le_zero.mp h]; exact Nat.le_refl _
  | n + 1, h => by
    by_cases e : m = n + 1
    · rw [e]; exact Nat.le_refl _
    · have := nsm_mono (f := f) (m := m) (n := n) (by omega)
      rw [nsm]; omega
def arF (g : Nat → Int32) (r d : Nat) : Nat := if gN g (57 + 10 * d + 0) = r ∨ gN g (57 + 10 * d + 1) = r then gN g (57 + 10 * d + 2) else 0
def arN (g : Nat → Int32) (r nd : Nat) : Nat := nsm (arF g r) nd
theorem areas_N {nr nd np st : Nat} {g : Nat → Int32} (hI : INV nr nd np st g) {r : Nat} (hr : r < 9) : ∀ n, n ≤ nd → areas g (nI r) n = nI (arN g r n) ∧ arN g r n ≤ 1000 * n := by
  intro n
  induction n with
  | zero => intro _; exact ⟨nI_0.symm, Nat.le_refl _⟩
  | succ n ih =>
    intro hn
    obtain ⟨i1, i2⟩ := ih (by omega)
    have hnd := hI.2.1.2
    have hnr := hI.1.2
    obtain ⟨a, b, ar, sp, de, o, t, l, ⟨q1, q1'⟩, ⟨q2, q2'⟩, q3, ⟨q4, q4'⟩, -⟩ := (hI.2.2.2.2.2.1 n (by omega)).1 (by omega)
    have e0 : gN g (57 + 10 * n + 0) = a := gN_of q1 (by omega)
    have e1 : gN g (57 + 10 * n + 1) = b := gN_of q2 (by omega)
    have e2 : gN g (57 + 10 * n + 2) = ar := gN_of q4 (by omega)
    have hF : arF g r n = if a = r ∨ b = r then ar else 0 := by rw [arF, e0, e1, e2]
    have hA : areas g (nI r) (n + 1) = areas g (nI r) n + (if a = r ∨ b = r then nI ar else 0) := by
      rw [areas, sumI_s, ← areas, q1, q2, q4]
      congr 1
      by_cases h : a = r ∨ b = r
      · rw [if_pos h, if_pos]
        rcases h with h | h
        · exact Or.inl (by rw [h])
        · exact Or.inr (by rw [h])
      · rw [if_neg h, if_neg]
        rintro (z | z)
        · exact h (Or.inl ((nI_eq (by omega) (by omega)).mp z))
        · exact h (Or.inr ((nI_eq (by omega) (by omega)).mp z))
    have hN : arN g r (n + 1) = arN g r n + arF g r n := rfl
    rw [hA, i1, hN, hF]
    by_cases h : a = r ∨ b = r
    · rw [if_pos h, if_pos h, nI_add]; exact ⟨rfl, by omega⟩
    · rw [if_neg h, if_neg h, Int32.add_zero]; exact ⟨rfl, by omega⟩
/-- doors' areas are no more than a room's volume -/
def WAL (nr nd : Nat) (g : Nat → Int32) : Prop := ∀ r, r < nr → arN g r nd ≤ gN g (9 + 6 * r + 0)
theorem WAL_eq {nr nd : Nat} {g h : Nat → Int32} (hW : WAL nr nd g) (e0 : ∀ r, r < nr → h (9 + 6 * r + 0) = g (9 + 6 * r + 0)) (e : ∀ d w, d < nd → w < 3 → h (57 + 10 * d + w) = g (57 + 10 * d + w)) : WAL nr nd h := by
  intro r hr
  rw [gN_congr (e0 r hr)]
  have : arN h r nd = arN g r nd := nsm_congr (fun d hd => by rw [arF, arF, gN_congr (e d 0 hd (by decide)), gN_congr (e d 1 hd (by decide)), gN_congr (e d 2 hd (by decide))])
  rw [this]
  exact hW r hr
theorem thr_v {g : Nat → Int32} {d a E ar o V : Nat} (ha : a ≠ 8) (he : g (9 + 6 * a + 2) = nI E) (hE : E ≤ 1000000000) (har : g (57 + 10 * d + 2) = nI ar) (har2 : ar ≤ 1000) (ho : g (57 + 10 * d + 5) = nI o) (ho2 : o ≤ 10) (hV : g (9 + 6 * a + 0) = nI V) (hV1 : 10 ≤ V) (hV2 : V ≤ 10000) : ∃ f, thr g d a = nI f ∧ f * V ≤ E * ar ∧ f = E * (ar * o) / (10 * V) := by
  refine ⟨E * (ar * o) / (10 * V), ?_, ?_, rfl⟩
  · have h10 : (10 : Int64) = lN 10 := by decide +kernel
    have hb : E * (ar * o) < 2 ^ 63 := by
      have h1 : ar * o ≤ 1000 * 10 := Nat.mul_le_mul har2 ho2
      have h2 : E * (ar * o) ≤ 1000000000 * (1000 * 10) := Nat.mul_le_mul hE h1
      omega
    rw [thr, if_neg ha, he, har, ho, hV, nI_l (by omega), nI_l (by omega), nI_l (by omega), nI_l (by omega), h10, lN_mul, lN_mul, lN_mul, Nat.mul_assoc, pk_lDiv hb (by omega) (by omega), lN_i]
  · have h1 : E * (ar * o) / (10 * V) * (10 * V) ≤ E * (ar * o) := Nat.div_mul_le_self _ _
    have h2 : E * (ar * o) ≤ E * (ar * 10) := Nat.mul_le_mul_left _ (Nat.mul_le_mul_left _ ho2)
    generalize hq : E * (ar * o) / (10 * V) = q at h1 ⊢
    have h3 : q * (10 * V) = 10 * (q * V) := Nat.mul_left_comm _ _ _
    have h4 : E * (ar * 10) = 10 * (E * ar) := by rw [Nat.mul_comm ar 10]; exact Nat.mul_left_comm _ _ _
    omega
/-- what goes out of a room through the first m sides, and their areas -/
def goF (fl g : Nat → Int32) (r k : Nat) : Nat := if gN g (57 + 10 * (k / 2) + k % 2) = r then (fl k).toNatClampNeg else 0
def goA (g : Nat → Int32) (r k : Nat) : Nat := if gN g (57 + 10 * (k / 2) + k % 2) = r then gN g (57 + 10 * (k / 2) + 2) else 0
theorem goA_0 {g : Nat → Int32} {r n a ar : Nat} (e0 : gN g (57 + 10 * n + 0) = a) (e2 : gN g (57 + 10 * n + 2) = ar) : goA g r (2 * n) = if a = r then ar else 0 := by
  have h1 : 2 * n / 2 = n := by omega
  have h2 : 2 * n % 2 = 0 := by omega
  unfold goA
  rw [h1, h2, e0, e2]
theorem goA_1 {g : Nat → Int32} {r n b ar : Nat} (e1 : gN g (57 + 10 * n + 1) = b) (e2 : gN g (57 + 10 * n + 2) = ar) : goA g r (2 * n + 1) = if b = r then ar else 0 := by
  have h1 : (2 * n + 1) / 2 = n := by omega
  have h2 : (2 * n + 1) % 2 = 1 := by omega
  unfold goA
  rw [h1, h2, e1, e2]
theorem nsm_2 (f : Nat → Nat) (n : Nat) : nsm f (2 * (n + 1)) = nsm f (2 * n) + f (2 * n) + f (2 * n + 1) := by
  have h : 2 * (n + 1) = (2 * n + 1) + 1 := by omega
  rw [h, nsm, nsm]
theorem goA_ar {nr nd np st : Nat} {g : Nat → Int32} (hI : INV nr nd np st g) (r : Nat) : ∀ n, n ≤ nd → nsm (goA g r) (2 * n) = arN g r n := by
  intro n
  induction n with
  | zero => intro _; rw [Nat.mul_zero, nsm, arN, nsm]
  | succ n ih =>
    intro hn
    have hnd := hI.2.1.2
    have hnr := hI.1.2
    obtain ⟨a, b, ar, sp, de, o, t, l, ⟨q1, q1'⟩, ⟨q2, q2'⟩, q3, ⟨q4, q4'⟩, -⟩ := (hI.2.2.2.2.2.1 n (by omega)).1 (by omega)
    have e0 : gN g (57 + 10 * n + 0) = a := gN_of q1 (by omega)
    have e1 : gN g (57 + 10 * n + 1) = b := gN_of q2 (by omega)
    have e2 : gN g (57 + 10 * n + 2) = ar := gN_of q4 (by omega)
    have hF : arF g r n = if a = r ∨ b = r then ar else 0 := by rw [arF, e0, e1, e2]
    have hN : arN g r (n + 1) = arN g r n + arF g r n := rfl
    rw [nsm_2, ih (by omega), goA_0 e0 e2, goA_1 e1 e2, hN, hF]
    by_cases z1 : a = r
    · have z2 : ¬ b = r := fun z => q3 (z1.trans z.symm)
      rw [if_pos z1, if_neg z2, if_pos (Or.inl z1)]; omega
    · by_cases z2 : b = r
      · rw [if_neg z1, if_pos z2, if_pos (Or.inr z2)]; omega
      · have z3 : ¬ (a = r ∨ b = r) := fun z => z.elim z1 z2
        rw [if_neg z1, if_neg z2, if_neg z3]
/-- the energy of a room as a number -/
theorem PB_N {W : Int} {g : Nat → Int32} (h : PB W g) {c : Nat} (hc : posC c) : g c = nI (gN g c) ∧ gN g c ≤ 1000000000 ∧ ((gN g c : Nat) : Int) = (g c).toInt := by
  have l := PB_le h hc
  have lW := h.2.2.2
  have hn : ¬ g c < 0 := fun z => by
    have := Int32.lt_iff_toInt_lt.mp z
    rw [show (0 : Int32).toInt = 0 by decide] at this
    omega
  obtain ⟨j, hj, e⟩ := nI_of hn
  have e2 : gN g c = j := gN_of e hj
  have e3 : (g c).toInt = (j : Int) := by rw [e]; exact nI_toInt hj
  rw [e2]
  exact ⟨e, by omega, e3.symm⟩
theorem nsm_le {f : Nat → Nat} {k : Nat} : ∀ {n : Nat}, k < n → f k ≤ nsm f n
  | 0, h => absurd h (Nat.not_lt_zero k)
  | n + 1, h => by
    rw [nsm]
    by_cases e : k = n
    · rw [e]; omega
    · have := nsm_le (f := f) (k := k) (n := n) (by omega)
      omega
theorem door_flow {nr nd np st : Nat} {W : Int} {g : Nat → Int32} (hI : INV nr nd np st g) (hP : PB W g) (hW : WAL nr nd g) {k r : Nat} (hk : k < 2 * nd) (hr : r < nr) (hs : gN g (57 + 10 * (k / 2) + k % 2) = r) : ∃ f, thrG g k = nI f ∧ f ≤ gN g (9 + 6 * r + 2) ∧ f * gN g (9 + 6 * r + 0) ≤ gN g (9 + 6 * r + 2) * gN g (57 + 10 * (k / 2) + 2) := by
  have hnd := hI.2.1.2
  have hnr := hI.1.2
  obtain ⟨a, b, ar, sp, de, o, t, l, -, -, -, ⟨q4, q4'⟩, -, -, ⟨q7, q7'⟩, -⟩ := (hI.2.2.2.2.2.1 (k / 2) (by omega)).1 (by omega)
  obtain ⟨V, hV, hV1, hV2⟩ := ((hI.2.2.2.2.1 r (by omega)).1 hr).1
  obtain ⟨p1, p2, -⟩ := PB_N hP (pos_e (show r < 8 by omega))
  obtain ⟨f, f1, f2, -⟩ := thr_v (d := k / 2) (a := r) (by omega) p1 p2 q4 q4'.2 q7 q7' hV hV1 hV2
  have eA : gN g (57 + 10 * (k / 2) + 2) = ar := gN_of q4 (by omega)
  have eV : gN g (9 + 6 * r + 0) = V := gN_of hV (by omega)
  have hw := hW r hr
  have hk2 : arF g r (k / 2) = ar := by
    rw [arF, if_pos, eA]
    rcases (show k % 2 = 0 ∨ k % 2 = 1 by omega) with z | z
    · exact Or.inl (by rw [z] at hs; exact hs)
    · exact Or.inr (by rw [z] at hs; exact hs)
  have har := nsm_le (f := arF g r) (show k / 2 < nd by omega)
  rw [hk2, ← arN] at har
  refine ⟨f, by rw [thrG, hs]; exact f1, ?_, by rw [eA, eV]; exact f2⟩
  have h1 : gN g (9 + 6 * r + 2) * ar ≤ gN g (9 + 6 * r + 2) * V := Nat.mul_le_mul_left _ (by omega)
  exact Nat.le_of_mul_le_mul_right (Nat.le_trans f2 h1) (by omega)
theorem go_mul {nr nd np st : Nat} {W : Int} {g : Nat → Int32} (hI : INV nr nd np st g) (hP : PB W g) (hW : WAL nr nd g) {r : Nat} (hr : r < nr) : ∀ m, m ≤ 2 * nd → nsm (goF (thrG g) g r) m * gN g (9 + 6 * r + 0) ≤ gN g (9 + 6 * r + 2) * nsm (goA g r) m := by
  intro m
  induction m with
  | zero => intro _; rw [nsm, nsm]; omega
  | succ m ih =>
    intro hm
    have i1 := ih (by omega)
    have hnr := hI.1.2
    rw [nsm, nsm, Nat.add_mul, Nat.mul_add]
    refine Nat.add_le_add i1 ?_
    by_cases hs : gN g (57 + 10 * (m / 2) + m % 2) = r
    · obtain ⟨f, f1, f2, f3⟩ := door_flow hI hP hW (show m < 2 * nd by omega) hr hs
      have hb := (PB_N hP (pos_e (show r < 8 by omega))).2.1
      rw [goF, goA, if_pos hs, if_pos hs, f1, nI_clamp (by omega)]
      exact f3
    · rw [goF, goA, if_neg hs, if_neg hs]; omega
theorem go_E {nr nd np st : Nat} {W : Int} {g : Nat → Int32} (hI : INV nr nd np st g) (hP : PB W g) (hW : WAL nr nd g) {r : Nat} (hr : r < nr) {m : Nat} (hm : m ≤ 2 * nd) : nsm (goF (thrG g) g r) m ≤ gN g (9 + 6 * r + 2) := by
  have h1 := go_mul hI hP hW hr m hm
  have h2 : nsm (goA g r) m ≤ gN g (9 + 6 * r + 0) := by
    refine Nat.le_trans (nsm_mono hm) ?_
    rw [goA_ar hI r nd (Nat.le_refl _)]
    exact hW r hr
  have hnr := hI.1.2
  obtain ⟨V, hV, hV1, hV2⟩ := ((hI.2.2.2.2.1 r (by omega)).1 hr).1
  have eV : gN g (9 + 6 * r + 0) = V := gN_of hV (by omega)
  refine Nat.le_of_mul_le_mul_right (Nat.le_trans h1 (Nat.mul_le_mul_left _ h2)) (by omega)
theorem send_PB {nr nd np st : Nat} {W : Int} {g : Nat → Int32} (hI : INV nr nd np st g) (hP : PB W g) (hW : WAL nr nd g) : ∀ m, m ≤ 2 * nd → PB W (sendN (thrG g) g m) ∧ ∀ r, r < nr → gN (sendN (thrG g) g m) (9 + 6 * r + 2) + nsm (goF (thrG g) g r) m = gN g (9 + 6 * r + 2) := by
  intro m
  induction m with
  | zero => intro _; exact ⟨hP, fun r _ => rfl⟩
  | succ m ih =>
    intro hm
    obtain ⟨i1, i2⟩ := ih (by omega)
    have hnd := hI.2.1.2
    have hnr := hI.1.2
    have hIm : INV nr nd np st (sendN (thrG g) g m) := INV_free hI (sendN_fre hI m (by omega))
    obtain ⟨a, ha, ha8, hav⟩ := INV_side hI (d := m / 2) (s := m % 2) (by omega) (by omega)
    have eN : gN g (57 + 10 * (m / 2) + m % 2) = a := gN_of ha (by omega)
    rw [sendN]
    by_cases h8 : a = 8
    · have hz : thrG g m = 0 := by rw [thrG, eN, thr, if_pos h8]
      rw [snd_n hz]
      refine ⟨i1, fun r hr => ?_⟩
      rw [nsm, goF, if_neg (by omega)]
      exact i2 r hr
    · have han : a < nr := (hav (by omega)).1
      obtain ⟨f, f1, f2, f3⟩ := door_flow hI hP hW (show m < 2 * nd by omega) han eN
      have hE := go_E hI hP hW han (m := m + 1) hm
      have hb := (PB_N hP (pos_e (show a < 8 by omega))).2.1
      have hgo : goF (thrG g) g a m = f := by rw [goF, if_pos eN, f1, nI_clamp (by omega)]
      rw [nsm, hgo] at hE
      obtain ⟨de, hde, hde5⟩ := INV_delay hIm (d := m / 2) (by omega)
      have hsd : sendN (thrG g) g m (57 + 10 * (m / 2) + m % 2) = g (57 + 10 * (m / 2) + m % 2) := sendN_fre hI m (by omega) _ (nfre_d hnr hnd (by omega) (by omega))
      have i2a := i2 a han
      generalize hX : sendN (thrG g) g m = h at i1 i2 hIm hde hsd i2a ⊢
      have hs := snd_s (fl := thrG g) (h := h) (d := m / 2) (s := m % 2) (b := a) (de := de) (by omega) (by omega) ((gN_congr hsd).trans eN) (by omega) (gN_of hde (by omega)) hde5
      rw [show 2 * (m / 2) + m % 2 = m by omega] at hs
      rw [hs, f1]
      obtain ⟨p1, p2, p3⟩ := PB_N i1 (pos_e (show a < 8 by omega))
      have fi : (nI f).toInt = (f : Int) := nI_toInt (by omega)
      obtain ⟨m1, m2, m3⟩ := PB_mv i1 (a := 9 + 6 * a + 2) (b := 177 + 12 * (m / 2) + 6 * (m % 2) + de) (pos_e (by omega)) (pos_w (by omega) (by omega)) (by omega) (v := nI f) (by omega) (by omega)
      refine ⟨PB_eq m1 (fun c hc => ?_), fun r hr => ?_⟩
      · have hcg : c ≠ 57 + 10 * (m / 2) + 8 + m % 2 := by
          rcases hc with z | z
          · unfold posC at z; omega
          · unfold gvC at z; omega
        by_cases c1 : c = 177 + 12 * (m / 2) + 6 * (m % 2) + de
        · rw [c1, upd_s, upd_s]
        · rw [upd_n _ _ c1, upd_n _ _ c1, upd_n _ _ hcg]
      · rw [nsm]
        have hne : 9 + 6 * r + 2 ≠ 177 + 12 * (m / 2) + 6 * (m % 2) + de := by omega
        have hne2 : 9 + 6 * r + 2 ≠ 57 + 10 * (m / 2) + 8 + m % 2 := by omega
        by_cases e : r = a
        · subst e
          have e3 : gN (upd (upd (upd h (9 + 6 * r + 2) (h (9 + 6 * r + 2) - nI f)) (57 + 10 * (m / 2) + 8 + m % 2) (h (57 + 10 * (m / 2) + 8 + m % 2) + nI f)) (177 + 12 * (m / 2) + 6 * (m % 2) + de) (h (177 + 12 * (m / 2) + 6 * (m % 2) + de) + nI f)) (9 + 6 * r + 2) = gN h (9 + 6 * r + 2) - f := by
            refine gN_of ?_ (by omega)
            rw [upd_n _ _ hne, upd_n _ _ hne2, upd_s]
            have p4 := pk_sub (a := gN h (9 + 6 * r + 2)) (b := f) (by omega)
            rw [← p4, ← p1]
          rw [e3, hgo]
          omega
        · rw [goF, if_neg (by omega)]
          have e3 : gN (upd (upd (upd h (9 + 6 * a + 2) (h (9 + 6 * a + 2) - nI f)) (57 + 10 * (m / 2) + 8 + m % 2) (h (57 + 10 * (m / 2) + 8 + m % 2) + nI f)) (177 + 12 * (m / 2) + 6 * (m % 2) + de) (h (177 + 12 * (m / 2) + 6 * (m % 2) + de) + nI f)) (9 + 6 * r + 2) = gN h (9 + 6 * r + 2) := by
            refine gN_congr ?_
            rw [upd_n _ _ hne, upd_n _ _ hne2, upd_n _ _ (by omega)]
          rw [e3]
          exact i2 r hr

