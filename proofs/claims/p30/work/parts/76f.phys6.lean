/-! SOUNDS GIVEN in any order; what goes and what arrives by turns -/
def gv1 (t : Int32) (j : Nat) (e : zE) : Int32 := if heE t e ∧ (j = 9 + 6 * e.2.2.1.toNatClampNeg + 2 ∨ j = 9 + 6 * e.2.2.1.toNatClampNeg + 4) then e.2.2.2.2 else 0
def gvS (t : Int32) (j : Nat) : List zE → Int32
  | [] => 0
  | e :: l => gv1 t j e + gvS t j l
theorem giveE_v (t : Int32) (h : Nat → Int32) (e : zE) (j : Nat) : giveE t h e j = h j + gv1 t j e := by
  rw [giveE, gv1]
  by_cases z : heE t e
  · rw [if_pos z]
    by_cases j4 : j = 9 + 6 * e.2.2.1.toNatClampNeg + 4
    · rw [if_pos ⟨z, Or.inr j4⟩, j4, upd_s]
    · rw [upd_n _ _ j4]
      by_cases j2 : j = 9 + 6 * e.2.2.1.toNatClampNeg + 2
      · rw [if_pos ⟨z, Or.inl j2⟩, j2, upd_s]
      · rw [upd_n _ _ j2, if_neg (fun y => y.2.elim j2 j4), Int32.add_zero]
  · rw [if_neg z, if_neg (fun y => z y.1), Int32.add_zero]
theorem giveL_v (t : Int32) (j : Nat) : ∀ (l : List zE) (h : Nat → Int32), giveL t h l j = h j + gvS t j l
  | [], h => (Int32.add_zero _).symm
  | e :: l, h => by
    show giveL t (giveE t h e) l j = _
    rw [giveL_v t j l, giveE_v, gvS, Int32.add_assoc]
theorem gvS_app (t : Int32) (j : Nat) : ∀ l m : List zE, gvS t j (l ++ m) = gvS t j l + gvS t j m
  | [], m => (Int32.zero_add _).symm
  | e :: l, m => by
    rw [List.cons_append, gvS, gvS, gvS_app t j l m, Int32.add_assoc]
theorem gvS_rev (t : Int32) (j : Nat) : ∀ l : List zE, gvS t j l.reverse = gvS t j l
  | [] => rfl
  | e :: l => by
    rw [List.reverse_cons, gvS_app, gvS_rev t j l, gvS, gvS, gvS, Int32.add_zero, Int32.add_comm]
theorem giveL_rev (t : Int32) (h : Nat → Int32) (l : List zE) (j : Nat) : giveL t h l.reverse j = giveL t h l j := by
  rw [giveL_v, giveL_v, gvS_rev]
theorem giveL_app (t : Int32) (h : Nat → Int32) (l : List zE) (e : zE) : giveL t h (l ++ [e]) = giveE t (giveL t h l) e := by
  unfold giveL
  rw [List.foldl_append]
  rfl
def iX (fl g : Nat → Int32) : Nat → (Nat → Int32)
  | 0 => g
  | k + 1 => arrR (sendR fl (iX fl g k) k) (k / 2) (k % 2)
theorem sub_add_c (a f c : Int32) : a - f + c = a + c - f := by
  rw [Int32.sub_eq_add_neg, Int32.sub_eq_add_neg, Int32.add_assoc, Int32.add_comm (-f) c, ← Int32.add_assoc]
theorem arr_send {nr nd np st : Nat} {fl Y : Nat → Int32} (hI : INV nr nd np st Y) {j m : Nat} (hj : j < 2 * nd) (hm : m < 2 * nd) (hjm : j ≠ m) (h8 : gN Y (57 + 10 * (m / 2) + m % 2) = 8 → fl m = 0) : arrR (sendR fl Y m) (j / 2) (j % 2) = sendR fl (arrR Y (j / 2) (j % 2)) m := by
  have hnd := hI.2.1.2
  have hnr := hI.1.2
  obtain ⟨a, ha, ha8, -⟩ := INV_side hI (d := m / 2) (s := m % 2) (by omega) (by omega)
  have eN : gN Y (57 + 10 * (m / 2) + m % 2) = a := gN_of ha (by omega)
  by_cases h : a = 8
  · have hz := h8 (eN.trans h)
    rw [snd_n hz, snd_n hz]
  · obtain ⟨de, hde, hde5⟩ := INV_delay hI (d := m / 2) (by omega)
    obtain ⟨b, hb, hb8, -⟩ := INV_side hI (d := j / 2) (s := 1 - j % 2) (by omega) (by omega)
    have hI2 : INV nr nd np st (arrR Y (j / 2) (j % 2)) := INV_free hI (arrR_fre hI (by omega) (by omega))
    have eA : ∀ w, w < 8 → arrR Y (j / 2) (j % 2) (57 + 10 * (m / 2) + w) = Y (57 + 10 * (m / 2) + w) := fun w hw => arrR_fre hI (by omega) (by omega) _ (nfre_d hnr hnd (by omega) hw)
    have s1 := snd_s (fl := fl) (h := Y) (d := m / 2) (s := m % 2) (b := a) (de := de) (by omega) (by omega) eN (by omega) (gN_of hde (by omega)) hde5
    have s2 := snd_s (fl := fl) (h := arrR Y (j / 2) (j % 2)) (d := m / 2) (s := m % 2) (b := a) (de := de) (by omega) (by omega) ((gN_congr (eA _ (by omega))).trans eN) (by omega) ((gN_congr (eA 4 (by omega))).trans (gN_of hde (by omega))) hde5
    rw [show 2 * (m / 2) + m % 2 = m by omega] at s1 s2
    have hS : INV nr nd np st (sendR fl Y m) := INV_free hI (sendR_fre hI hm)
    have eS : ∀ w, w < 8 → sendR fl Y m (57 + 10 * (j / 2) + w) = Y (57 + 10 * (j / 2) + w) := fun w hw => sendR_fre hI hm _ (nfre_d hnr hnd (by omega) hw)
    have j1 := fun c => arrR_j (h := Y) (d := j / 2) (s := j % 2) (b := b) (by omega) (by omega) (gN_of hb (by omega)) hb8 c
    have j2 := fun c => arrR_j (h := sendR fl Y m) (d := j / 2) (s := j % 2) (b := b) (by omega) (by omega) ((gN_congr (eS _ (by omega))).trans (gN_of hb (by omega))) hb8 c
    have ht : (if b = 8 then 4 else 9 + 6 * b + 2) < 57 := by split <;> omega
    have hrr : 177 + 12 * (m / 2) + 6 * (m % 2) + de < 177 + 12 * (j / 2) + 6 * (j % 2) ∨ 177 + 12 * (j / 2) + 6 * (j % 2) + 5 < 177 + 12 * (m / 2) + 6 * (m % 2) + de := by omega
    have hr0 : 177 ≤ 177 + 12 * (j / 2) + 6 * (j % 2) := by omega
    have hr1 : 177 ≤ 177 + 12 * (m / 2) + 6 * (m % 2) + de := by omega
    have hgn : 57 ≤ 57 + 10 * (m / 2) + 8 + m % 2 ∧ 57 + 10 * (m / 2) + 8 + m % 2 < 177 := by omega
    have hen : 9 + 6 * a + 2 < 57 := by omega
    generalize (if b = 8 then 4 else 9 + 6 * b + 2) = t at j1 j2 ht
    generalize 177 + 12 * (j / 2) + 6 * (j % 2) = r0 at j1 j2 hrr hr0
    generalize 177 + 12 * (m / 2) + 6 * (m % 2) + de = rg at s1 s2 hrr hr1
    generalize 57 + 10 * (m / 2) + 8 + m % 2 = gn at s1 s2 hgn
    generalize 9 + 6 * a + 2 = en at s1 s2 hen
    funext c
    rw [j2 c, s2, s1]
    have q0 : upd (upd (upd Y en (Y en - fl m)) gn (Y gn + fl m)) rg (Y rg + fl m) r0 = Y r0 := by
      rw [upd_n _ _ (by omega), upd_n _ _ (by omega), upd_n _ _ (by omega)]
    rw [q0]
    by_cases c1 : c = rg
    · subst c1
      rw [if_neg (by omega), if_neg (by omega), if_neg (by omega), upd_s, upd_s, j1, if_neg (by omega), if_neg (by omega), if_neg (by omega)]
    · by_cases c2 : c = gn
      · subst c2
        rw [if_neg (by omega), if_neg (by omega), if_neg (by omega), upd_n _ _ c1, upd_s, upd_n _ _ c1, upd_s, j1, if_neg (by omega), if_neg (by omega), if_neg (by omega)]
      · by_cases c3 : c = en
        · subst c3
          rw [upd_n _ _ c1, upd_n _ _ c2, upd_s, upd_n _ _ c1, upd_n _ _ c2, upd_s, j1]
          by_cases c4 : c = t
          · rw [if_pos c4, if_pos c4]
            exact sub_add_c _ _ _
          · rw [if_neg c4, if_neg c4, if_neg (by omega), if_neg (by omega), if_neg (by omega), if_neg (by omega)]
        · rw [upd_n _ _ c1, upd_n _ _ c2, upd_n _ _ c3, upd_n _ _ c1, upd_n _ _ c2, upd_n _ _ c3, j1]
          by_cases c4 : c = t
          · rw [if_pos c4, if_pos c4]
          · rw [if_neg c4, if_neg c4]
            by_cases c5 : c = r0 + 5
            · rw [if_pos c5, if_pos c5]
            · rw [if_neg c5, if_neg c5]
              by_cases c6 : r0 ≤ c ∧ c < r0 + 5
              · rw [if_pos c6, if_pos c6, upd_n _ _ (by omega), upd_n _ _ (by omega), upd_n _ _ (by omega)]
              · rw [if_neg c6, if_neg c6]
theorem arrN_send {nr nd np st : Nat} {fl X : Nat → Int32} (hI : INV nr nd np st X) {m : Nat} (hm : m < 2 * nd) (h8 : gN X (57 + 10 * (m / 2) + m % 2) = 8 → fl m = 0) : ∀ j, j ≤ m → arrN (sendR fl X m) j = sendR fl (arrN X j) m := by
  intro j
  induction j with
  | zero => intro _; rfl
  | succ j ih =>
    intro hj
    have hnd := hI.2.1.2
    have hnr := hI.1.2
    have hIj : INV nr nd np st (arrN X j) := INV_free hI (arrN_fre hI j (by omega))
    rw [arrN, ih (by omega), arrN]
    refine arr_send hIj (by omega) hm (by omega) (fun z => h8 ?_)
    rw [← z]
    exact gN_congr (arrN_fre hI j (by omega) _ (nfre_d hnr hnd (by omega) (by omega))).symm
theorem iX_eq {nr nd np st : Nat} {fl g : Nat → Int32} (hI : INV nr nd np st g) (h8 : ∀ m, m < 2 * nd → gN g (57 + 10 * (m / 2) + m % 2) = 8 → fl m = 0) : ∀ m, m ≤ 2 * nd → iX fl g m = arrN (sendN fl g m) m := by
  intro m
  induction m with
  | zero => intro _; rfl
  | succ m ih =>
    intro hm
    have hnd := hI.2.1.2
    have hnr := hI.1.2
    have hIm : INV nr nd np st (sendN fl g m) := INV_free hI (sendN_fre hI m (by omega))
    rw [iX, ih (by omega), arrN, sendN]
    rw [arrN_send hIm (by omega) (fun z => h8 m (by omega) ?_) m (Nat.le_refl _)]
    rw [← z]
    exact gN_congr (sendN_fre hI m (by omega) _ (nfre_d hnr hnd (by omega) (by omega))).symm
theorem iX_INV {nr nd np st : Nat} {fl g : Nat → Int32} (hI : INV nr nd np st g) (h8 : ∀ m, m < 2 * nd → gN g (57 + 10 * (m / 2) + m % 2) = 8 → fl m = 0) {m : Nat} (hm : m ≤ 2 * nd) : INV nr nd np st (iX fl g m) ∧ ∀ d w, d < 12 → w < 8 → iX fl g m (57 + 10 * d + w) = g (57 + 10 * d + w) := by
  have hnd := hI.2.1.2
  have hnr := hI.1.2
  have hIm : INV nr nd np st (sendN fl g m) := INV_free hI (sendN_fre hI m hm)
  rw [iX_eq hI h8 m hm]
  refine ⟨INV_free hIm (arrN_fre hIm m hm), fun d w hd hw => ?_⟩
  rw [arrN_fre hIm m hm _ (nfre_d hnr hnd hd hw), sendN_fre hI m hm _ (nfre_d hnr hnd hd hw)]

