/-! THE STEP, its phases by the plan as a list -/
abbrev isTe (t : Int32) (e : zE) : Prop := e.2.1 = 1 ∧ e.1 = t
def aimE (t : Int32) (h : Nat → Int32) (e : zE) : Nat → Int32 := if isTe t e then upd h (57 + 10 * e.2.2.1.toNatClampNeg + 6) (if h (57 + 10 * e.2.2.1.toNatClampNeg + 7) = 1 then h (57 + 10 * e.2.2.1.toNatClampNeg + 6) else e.2.2.2.2) else h
def aimL (t : Int32) (h : Nat → Int32) (l : List zE) : Nat → Int32 := l.foldl (aimE t) h
def keepT (t : Int32) (e : zE) : Bool := !decide (isTe t e)
abbrev heE (t : Int32) (e : zE) : Prop := e.2.1 = 0 ∧ ¬ t < e.1 ∧ ¬ e.1 + e.2.2.2.1 - 1 < t
def giveE (t : Int32) (h : Nat → Int32) (e : zE) : Nat → Int32 := if heE t e then upd (upd h (9 + 6 * e.2.2.1.toNatClampNeg + 2) (h (9 + 6 * e.2.2.1.toNatClampNeg + 2) + e.2.2.2.2)) (9 + 6 * e.2.2.1.toNatClampNeg + 4) (h (9 + 6 * e.2.2.1.toNatClampNeg + 4) + e.2.2.2.2) else h
def giveL (t : Int32) (h : Nat → Int32) (l : List zE) : Nat → Int32 := l.foldl (giveE t) h
abbrev enE (t : Int32) (e : zE) : Prop := heE t e ∧ e.1 + e.2.2.2.1 - 1 = t
def keepS (t : Int32) (e : zE) : Bool := !decide (enE t e)
/-- the cells of an entry's room or door are no cells of the plan -/
def smE (e : zE) : Prop := e.2.2.1.toNatClampNeg < 12 ∧ (e.2.1 = 0 → e.2.2.1.toNatClampNeg < 8)
theorem EOK_sm {nr nd st : Nat} {e : zE} (h : EOK nr nd st e) (hnr : nr ≤ 8) (hnd : nd ≤ 12) : smE e := by
  obtain ⟨f, kd, wh, sp, mu, rfl, h1, h2⟩ := h
  refine ⟨?_, fun h0 => ?_⟩
  · show (nI wh).toNatClampNeg < 12
    rw [nI_clamp (by omega)]; omega
  · show (nI wh).toNatClampNeg < 8
    have h0 : nI kd = 0 := h0
    rw [← nI_0] at h0
    have : kd = 0 := (nI_eq (by omega) (by omega)).mp h0
    rw [nI_clamp (by omega)]; omega
theorem planL_in {g : Nat → Int32} {np : Nat} {e : zE} (h : e ∈ planL g np) : ∃ k, k < np ∧ ent g k = e := by
  obtain ⟨k, hk, he⟩ := List.mem_map.mp h
  exact ⟨k, List.mem_range.mp hk, he⟩
theorem INV_sm {nr nd np st : Nat} {g : Nat → Int32} (hI : INV nr nd np st g) : ∀ e ∈ planL g np, smE e := by
  intro e he
  obtain ⟨k, hk, rfl⟩ := planL_in he
  exact EOK_sm (hI.2.2.2.2.2.2.1 k hk) hI.1.2 hI.2.1.2
theorem aimE_congr {t : Int32} {h h' : Nat → Int32} {e : zE} (hs : smE e) (hh : ∀ j, sc j → h j = h' j) : ∀ j, sc j → aimE t h e j = aimE t h' e j := by
  intro j hj
  have := hs.1
  unfold aimE
  split
  · rw [hh _ (show sc (57 + 10 * e.2.2.1.toNatClampNeg + 7) from ⟨by omega, by omega⟩), hh _ (show sc (57 + 10 * e.2.2.1.toNatClampNeg + 6) from ⟨by omega, by omega⟩)]
    simp only [upd]
    split
    · rfl
    · exact hh j hj
  · exact hh j hj
theorem aimL_congr {t : Int32} : ∀ (l : List zE) {h h' : Nat → Int32}, (∀ e ∈ l, smE e) → (∀ j, sc j → h j = h' j) → ∀ j, sc j → aimL t h l j = aimL t h' l j
  | [], _, _, _, hh, j, hj => hh j hj
  | e :: l, h, h', hs, hh, j, hj => aimL_congr l (fun x hx => hs x (List.mem_cons_of_mem _ hx)) (aimE_congr (hs e List.mem_cons_self) hh) j hj
theorem giveE_congr {t : Int32} {h h' : Nat → Int32} {e : zE} (hs : smE e) (hh : ∀ j, sc j → h j = h' j) : ∀ j, sc j → giveE t h e j = giveE t h' e j := by
  intro j hj
  have := hs.1
  unfold giveE
  split
  · rw [hh _ (show sc (9 + 6 * e.2.2.1.toNatClampNeg + 2) from ⟨by omega, by omega⟩), hh _ (show sc (9 + 6 * e.2.2.1.toNatClampNeg + 4) from ⟨by omega, by omega⟩)]
    simp only [upd]
    split
    · rfl
    · split
      · rfl
      · exact hh j hj
  · exact hh j hj
theorem giveL_congr {t : Int32} : ∀ (l : List zE) {h h' : Nat → Int32}, (∀ e ∈ l, smE e) → (∀ j, sc j → h j = h' j) → ∀ j, sc j → giveL t h l j = giveL t h' l j
  | [], _, _, _, hh, j, hj => hh j hj
  | e :: l, h, h', hs, hh, j, hj => giveL_congr l (fun x hx => hs x (List.mem_cons_of_mem _ hx)) (giveE_congr (hs e List.mem_cons_self) hh) j hj
theorem tgF_base {nr nd st k : Nat} {g : Nat → Int32} (hI : INV nr nd k st g) (hn : ∀ j, j < k → ¬ isT g j) : ∃ np', INV nr nd np' st g ∧ planL g np' = (planL g k).filter (keepT (nI st)) ∧ ∀ j, sc j → g j = aimL (nI st) g ((planL g k).drop k) j := by
  refine ⟨k, hI, ?_, fun j _ => ?_⟩
  · rw [List.filter_eq_self.mpr]
    intro e he
    obtain ⟨i, hi, rfl⟩ := planL_in he
    have := hn i hi
    rw [isT, hI.2.2.2.1] at this
    simp only [keepT]
    rw [decide_eq_false (show ¬ isTe (nI st) (ent g i) from this)]
    rfl
  · rw [List.drop_eq_nil_of_le (by rw [planL_len]; omega)]
    rfl
theorem tgF_spec {nr nd st : Nat} : ∀ (f k np : Nat) (g : Nat → Int32), INV nr nd np st g → k ≤ np → np ≤ k + f → (∀ j, j < k → ¬ isT g j) → ∃ np', INV nr nd np' st (tgF f k g) ∧ planL (tgF f k g) np' = (planL g np).filter (keepT (nI st)) ∧ ∀ j, sc j → tgF f k g j = aimL (nI st) g ((planL g np).drop k) j := by
  intro f
  induction f with
  | zero =>
    intro k np g hI hk hf hn
    have hkn : k = np := by omega
    subst hkn
    exact tgF_base hI hn
  | succ f ih =>
    intro k np g hI hk hf hn
    have hg2 : gN g 2 = np := gN_of hI.2.2.1.1 (by have := hI.2.2.1.2; omega)
    have h3 : g 3 = nI st := hI.2.2.2.1
    rw [tgF, hg2]
    by_cases hkn : k < np
    · rw [if_pos hkn]
      have hek : (planL g np)[k]? = some (ent g k) := by rw [planL_get, if_pos hkn]
      rw [drop_at _ _ _ hek]
      by_cases hT : isT g k
      · rw [if_pos hT]
        have hTe : isTe (nI st) (ent g k) := by rw [← h3]; exact hT
        have hIP := INV_tgP hI hkn hT.1
        have hIL := INV_lvs hIP hkn
        obtain ⟨wh, mu, hw2, hw3, -⟩ := INV_kd1 hI hkn hT.1
        have hnd := hI.2.1.2
        have hplP : planL (tgP g k) np = planL g np := planL_congr (fun i hi => ent_congr (fun j h1 h2 => tgP_o g hw2 (by omega) (by omega)))
        obtain ⟨np', a1, a2, a3⟩ := ih k (np - 1) _ hIL (by omega) (by omega) (fun j hj => by
          have := hn j hj
          intro q
          apply this
          have e := ent_lvs (tgP g k) (i := k) (np := np) (k := j) (by omega)
          rw [if_pos hj, ent_congr (g := tgP g k) (h := g) (fun j h1 h2 => tgP_o g hw2 (by omega) (by omega))] at e
          simp only [ent, Prod.mk.injEq] at e
          refine ⟨e.2.1.symm.trans q.1, ?_⟩
          rw [← e.1, q.2, lvs_o _ (by omega) (by omega) hI.2.2.1.2, tgP_o g hw2 (by omega) (by omega)])
        refine ⟨np', a1, ?_, fun j hj => ?_⟩
        · rw [a2, planL_lvs _ hkn, hplP]
          refine filter_erase _ _ _ _ hek ?_
          simp only [keepT]
          rw [decide_eq_true hTe]
          rfl
        · rw [a3 j hj, planL_lvs _ hkn, drop_erase, hplP]
          have hP : aimE (nI st) g (ent g k) = tgP g k := by
            rw [aimE, if_pos hTe]
            rfl
          show _ = aimL (nI st) (aimE (nI st) g (ent g k)) _ j
          rw [hP]
          exact aimL_congr _ (fun e he => INV_sm hI e (List.mem_of_mem_drop he)) (fun j hj => lvs_o _ hj.1 hj.2 hI.2.2.1.2) j hj
      · rw [if_neg hT]
        have hTe : ¬ isTe (nI st) (ent g k) := by rw [← h3]; exact hT
        obtain ⟨np', a1, a2, a3⟩ := ih (k + 1) np g hI (by omega) (by omega) (fun j hj => by
          by_cases e : j = k
          · rw [e]; exact hT
          · exact hn j (by omega))
        refine ⟨np', a1, a2, fun j hj => ?_⟩
        rw [a3 j hj]
        show _ = aimL (nI st) (aimE (nI st) g (ent g k)) _ j
        rw [aimE, if_neg hTe]
    · rw [if_neg hkn]
      have : k = np := by omega
      subst this
      exact tgF_base hI hn
theorem hrd_he {g : Nat → Int32} {k : Nat} : hrd g k (g (321 + 5 * k + 2)) ↔ heE (g 3) (ent g k) := ⟨fun h => ⟨h.1, h.2.2.1, h.2.2.2⟩, fun h => ⟨h.1, rfl, h.2.1, h.2.2⟩⟩
theorem giveE_Q {g : Nat → Int32} {k st : Nat} (h3 : g 3 = nI st) : sndQ g k = giveE (nI st) g (ent g k) := by
  unfold sndQ giveE
  by_cases hh : heE (nI st) (ent g k)
  · rw [if_pos hh, if_pos (hrd_he.mpr (by rw [h3]; exact hh))]
    rfl
  · rw [if_neg hh, if_neg (fun z => hh (by rw [← h3]; exact hrd_he.mp z))]
theorem sndE_en {g : Nat → Int32} {k st : Nat} (h3 : g 3 = nI st) : sndE g k ↔ enE (nI st) (ent g k) := by
  unfold sndE enE
  rw [← h3]
  exact ⟨fun h => ⟨hrd_he.mp h.1, h.2⟩, fun h => ⟨hrd_he.mpr h.1, h.2⟩⟩
theorem sndF_base {nr nd st k : Nat} {g : Nat → Int32} (hI : INV nr nd k st g) (hn : ∀ j, j < k → ¬ sndE g j) : ∃ np', INV nr nd np' st g ∧ planL g np' = (planL g k).filter (keepS (nI st)) ∧ ∀ j, sc j → g j = giveL (nI st) g ((planL g k).drop k) j := by
  refine ⟨k, hI, ?_, fun j _ => ?_⟩
  · rw [List.filter_eq_self.mpr]
    intro e he
    obtain ⟨i, hi, rfl⟩ := planL_in he
    have := hn i hi
    simp only [keepS]
    rw [decide_eq_false (show ¬ enE (nI st) (ent g i) from fun z => this ((sndE_en hI.2.2.2.1).mpr z))]
    rfl
  · rw [List.drop_eq_nil_of_le (by rw [planL_len]; omega)]
    rfl
theorem sndF_spec {nr nd st : Nat} : ∀ (f k np : Nat) (g : Nat → Int32), INV nr nd np st g → k ≤ np → np ≤ k + f → (∀ j, j < k → ¬ sndE g j) → ∃ np', INV nr nd np' st (sndF f k g) ∧ planL (sndF f k g) np' = (planL g np).filter (keepS (nI st)) ∧ ∀ j, sc j → sndF f k g j = giveL (nI st) g ((planL g np).drop k) j := by
  intro f
  induction f with
  | zero =>
    intro k np g hI hk hf hn
    have hkn : k = np := by omega
    subst hkn
    exact sndF_base hI hn
  | succ f ih =>
    intro k np g hI hk hf hn
    have hg2 : gN g 2 = np := gN_of hI.2.2.1.1 (by have := hI.2.2.1.2; omega)
    have h3 : g 3 = nI st := hI.2.2.2.1
    rw [sndF, hg2]
    by_cases hkn : k < np
    · rw [if_pos hkn]
      have hek : (planL g np)[k]? = some (ent g k) := by rw [planL_get, if_pos hkn]
      rw [drop_at _ _ _ hek]
      have hIQ := INV_sndQ hI hkn
      have hnr := hI.1.2
      have hQo : ∀ j, (j < 9 ∨ 57 ≤ j) → sndQ g k j = g j := fun j hj => sndQ_o g hnr (INV_sndK hI) hkn hj
      have hentQ : ∀ i, ent (sndQ g k) i = ent g i := fun i => ent_congr (fun j h1 h2 => hQo j (by omega))
      have hplQ : planL (sndQ g k) np = planL g np := planL_congr (fun i _ => hentQ i)
      have hQ : giveE (nI st) g (ent g k) = sndQ g k := (giveE_Q h3).symm
      have hsQ : ∀ j, sndE (sndQ g k) j ↔ sndE g j := fun j => by
        rw [sndE_en (st := st) (by rw [hQo 3 (by omega)]; exact h3), sndE_en h3, hentQ]
      by_cases hE : sndE g k
      · rw [if_pos hE]
        have hIL := INV_lvs hIQ hkn
        obtain ⟨np', a1, a2, a3⟩ := ih k (np - 1) _ hIL (by omega) (by omega) (fun j hj q => by
          apply hn j hj
          rw [← hsQ j, sndE_en (st := st) (by rw [hQo 3 (by omega)]; exact h3)]
          have e := ent_lvs (sndQ g k) (i := k) (np := np) (k := j) (by omega)
          rw [if_pos hj] at e
          rw [← e]
          exact (sndE_en (by rw [lvs_o _ (by omega) (by omega) hI.2.2.1.2, hQo 3 (by omega)]; exact h3)).mp q)
        refine ⟨np', a1, ?_, fun j hj => ?_⟩
        · rw [a2, planL_lvs _ hkn, hplQ]
          refine filter_erase _ _ _ _ hek ?_
          simp only [keepS]
          rw [decide_eq_true ((sndE_en h3).mp hE)]
          rfl
        · rw [a3 j hj, planL_lvs _ hkn, drop_erase, hplQ]
          show _ = giveL (nI st) (giveE (nI st) g (ent g k)) _ j
          rw [hQ]
          exact giveL_congr _ (fun e he => INV_sm hI e (List.mem_of_mem_drop he)) (fun j hj => lvs_o _ hj.1 hj.2 hI.2.2.1.2) j hj
      · rw [if_neg hE]
        obtain ⟨np', a1, a2, a3⟩ := ih (k + 1) np _ hIQ (by omega) (by omega) (fun j hj => by
          rw [hsQ]
          by_cases e : j = k
          · rw [e]; exact hE
          · exact hn j (by omega))
        refine ⟨np', a1, by rw [a2, hplQ], fun j hj => ?_⟩
        rw [a3 j hj, hplQ]
        show _ = giveL (nI st) (giveE (nI st) g (ent g k)) _ j
        rw [hQ]
    · rw [if_neg hkn]
      have : k = np := by omega
      subst this
      exact sndF_base hI hn
-- doors move
theorem mv_fin : ∀ o t sp : Nat, o < 11 → t < 11 → sp < 11 → ∃ v, v ≤ 10 ∧ nI o + (if nI sp < nI t - nI o then nI sp else if nI t - nI o < - nI sp then - nI sp else nI t - nI o) = nI v := by
  have h : (List.range 11).all (fun o => (List.range 11).all (fun t => (List.range 11).all (fun sp => decide (nI o + (if nI sp < nI t - nI o then nI sp else if nI t - nI o < - nI sp then - nI sp else nI t - nI o) = nI (nI o + (if nI sp < nI t - nI o then nI sp else if nI t - nI o < - nI sp then - nI sp else nI t - nI o)).toNatClampNeg) && decide ((nI o + (if nI sp < nI t - nI o then nI sp else if nI t - nI o < - nI sp then - nI sp else nI t - nI o)).toNatClampNeg ≤ 10)))) = true := by decide +kernel
  intro o t sp h1 h2 h3
  have a := List.all_eq_true.mp h o (List.mem_range.mpr h1)
  have b := List.all_eq_true.mp a t (List.mem_range.mpr h2)
  have c := List.all_eq_true.mp b sp (List.mem_range.mpr h3)
  rw [Bool.and_eq_true, decide_eq_true_eq, decide_eq_true_eq] at c
  exact ⟨_, c.2, c.1⟩
theorem INV_movR {nr nd np st : Nat} {g : Nat → Int32} (hI : INV nr nd np st g) {i : Nat} (hi : i < nd) : INV nr nd np st (movR g i) := by
  have hnd := hI.2.1.2
  obtain ⟨a, b, ar, sp, de, o, t, l, g0, g1, g2, g3, g4, g5, g6, g7, g8⟩ := (hI.2.2.2.2.2.1 i (by omega)).1 hi
  obtain ⟨v, hv, hm⟩ := mv_fin o t sp (by omega) (by omega) (by omega)
  have hA : INV nr nd np st (movA g i) := by
    refine INV_door hI hi hv (fun j hj _ => upd_n _ _ hj) (Or.inl ⟨?_, upd_n _ _ (by omega)⟩)
    rw [movA, upd_s, mvG, g4.1, g6.1, g7.1]
    exact hm
  exact INV_free hA (fun j hj => upd_n _ _ (fun e => hj (by rw [e]; unfold fre; omega)))
theorem INV_movN {nr nd np st : Nat} {g : Nat → Int32} (hI : INV nr nd np st g) : ∀ m, m ≤ nd → INV nr nd np st (movN g m)
  | 0, _ => hI
  | m + 1, hm => INV_movR (INV_movN hI m (by omega)) (by omega)
theorem movN_ent (g : Nat → Int32) (m : Nat) (hm : m ≤ 12) (k : Nat) : ent (movN g m) k = ent g k := ent_congr (fun j h1 h2 => movN_o g m j (by omega) (fun i hi => by omega))
theorem oldR_fre {nr nd i : Nat} {g : Nat → Int32} (hi : i < nr) : ∀ j, ¬ fre nr nd j → oldR g i j = g j := by
  intro j hj
  have n1 : ¬ (401 + 32 * i ≤ j ∧ j < 433 + 32 * i) := fun e => hj (Or.inr (Or.inr (Or.inr (Or.inr (Or.inr (Or.inr (Or.inr (Or.inr ⟨i, hi, e.1, e.2⟩))))))))
  rw [oldR, if_neg (by omega), if_neg (by omega)]
theorem oldN_fre {nr nd : Nat} {g : Nat → Int32} : ∀ m, m ≤ nr → ∀ j, ¬ fre nr nd j → oldN g m j = g j
  | 0, _, _, _ => rfl
  | m + 1, hm, j, hj => by
    rw [oldN, oldR_fre (nr := nr) (nd := nd) (by omega) j hj]
    exact oldN_fre m (by omega) j hj
theorem absN_fre {nr nd : Nat} {g : Nat → Int32} {m : Nat} (hm : m ≤ nr) : ∀ j, ¬ fre nr nd j → absN g m j = g j := by
  intro j hj
  refine absN_o g m j (fun i hi => ?_)
  have n1 : ¬ (9 + 6 * i + 1 ≤ j ∧ j ≤ 9 + 6 * i + 4) := fun e => hj (Or.inr (Or.inr (Or.inr (Or.inr (Or.inr (Or.inl ⟨i, by omega, e.1, e.2⟩))))))
  omega
theorem fre_sc {nr nd j : Nat} (hnr : nr ≤ 8) (hnd : nd ≤ 12) (h : fre nr nd j) : sc j ∧ j ≠ 3 := by
  unfold fre at h
  unfold sc
  rcases h with q | q | q | q | q | ⟨y, q⟩ | ⟨y, q⟩ | ⟨y, q⟩ | ⟨y, q⟩ <;> omega
theorem fre_ent {nr nd : Nat} (hnr : nr ≤ 8) (hnd : nd ≤ 12) {g h : Nat → Int32} (hh : ∀ j, ¬ fre nr nd j → h j = g j) {k : Nat} (hk : k < 16) : ent h k = ent g k := ent_congr (fun j h1 h2 => hh j (fun z => by have := (fre_sc hnr hnd z).1; unfold sc at this; omega))


