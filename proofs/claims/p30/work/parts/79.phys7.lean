/-! A HOUSE OF THIS LAW: what is kept by changes -/
theorem PH_mono {nr nd np st B B' : Nat} {W : Int} {g : Nat → Int32} (h : PH nr nd np st B W g) (hB : B ≤ B') : PH nr nd np st B' W g := by
  obtain ⟨h1, h2, h3, h4, h5, h6, ⟨t, t1, t2, t3⟩, h8⟩ := h
  exact ⟨h1, h2, h3, h4, h5, h6, ⟨t, t1, t2, by omega⟩, h8⟩
theorem lsm_app (f : zE → Int) : ∀ l m : List zE, lsm f (l ++ m) = lsm f l + lsm f m
  | [], m => by rw [List.nil_append, lsm]; omega
  | e :: l, m => by rw [List.cons_append, lsm, lsm, lsm_app f l m]; omega
theorem pl_cg {F H : Nat → zE} {n : Nat} (e : ∀ k, k < n → F k = H k) : pl F n = pl H n :=
  List.map_congr_left (fun k hk => e k (List.mem_range.mp hk))
theorem lsm_ins (f : zE → Int) (F : Nat → zE) {pos : Nat} (e : zE) : ∀ n, pos ≤ n → lsm f (pl (insF F pos e) (n + 1)) = lsm f (pl F n) + f e := by
  intro n
  induction n with
  | zero =>
    intro h
    have h0 : pos = 0 := by omega
    subst h0
    show f (insF F 0 e 0) + 0 = 0 + f e
    have : insF F 0 e 0 = e := by unfold insF; rw [if_neg (by omega), if_pos rfl]
    rw [this]; omega
  | succ n ih =>
    intro h
    rw [pl_s (insF F pos e) (n + 1), lsm_app, lsm, lsm]
    by_cases hp : pos = n + 1
    · have h1 : pl (insF F pos e) (n + 1) = pl F (n + 1) := pl_cg (fun k hk => by unfold insF; rw [if_pos (by omega)])
      have h2 : insF F pos e (n + 1) = e := by unfold insF; rw [if_neg (by omega), if_pos hp.symm]
      rw [h1, h2]; omega
    · have h2 : insF F pos e (n + 1) = F n := by unfold insF; rw [if_neg (by omega), if_neg (by omega)]; rfl
      rw [ih (by omega), h2, pl_s F n, lsm_app, lsm, lsm]; omega
theorem planL_put {g : Nat → Int32} {np : Nat} {t kd wh sp mu : Int32} (hnp : np < 16) : planL (putG g np t kd wh sp mu) (np + 1) = pl (insF (ent g) (posF g t np 0) (t, kd, wh, sp, mu)) (np + 1) :=
  pl_cg (fun k hk => put_ent hnp (by omega))
theorem pos_le (g : Nat → Int32) (t : Int32) (np : Nat) : posF g t np 0 ≤ np := by
  have := (posF_spec g t np 0).2.1
  omega
theorem PH_alike {nr nd np st B : Nat} {W : Int} {g h : Nat → Int32} (hH : PH nr nd np st B W g) (hI : INV nr nd np st h) (h7 : ∃ s : Nat, h 7 = nI s ∧ s ≤ 1000000) (e : ∀ c, c ≠ 7 → c ≠ 8 → (∀ d, d < 12 → c ≠ 57 + 10 * d + 6 ∧ c ≠ 57 + 10 * d + 7) → h c = g c) : PH nr nd np st B W h := by
  obtain ⟨h1, h2, h3, h4, h5, h6, ⟨t, t1, t2, t3⟩, h8⟩ := hH
  have hnr := hI.1.2
  have hnd := hI.2.1.2
  have hp : planL h np = planL g np := planL_congr (fun k hk => ent_congr (fun j j1 j2 => e j (by omega) (by omega) (fun d hd => by omega)))
  refine ⟨hI, h2, ABS_eq h3 (fun r hr => e _ (by omega) (by omega) (fun d hd => by omega)), WAL_eq h4 (fun r hr => e _ (by omega) (by omega) (fun d hd => by omega)) (fun d w hd hw => e _ (by omega) (by omega) (fun d' hd' => by omega)), PB_eq h5 (fun c hc => ?_), h7, ⟨t, ?_, by rw [hp]; exact t2, by rw [hp]; exact t3⟩, by rw [hp]; exact h8⟩
  · have hc2 : c = 4 ∨ (9 ≤ c ∧ c < 57) ∨ (177 ≤ c ∧ c < 321) := by
      rcases hc with z | z
      · unfold posC at z; omega
      · unfold gvC at z; omega
    exact e c (by omega) (by omega) (fun d hd => by omega)
  · rw [e 5 (by omega) (by omega) (fun d hd => by omega)]; exact t1
theorem PH_room {nr nd np st B V A : Nat} {W : Int} {g : Nat → Int32} (hH : PH nr nd np st B W g) (hr : nr < 4) (hst : st ≤ 6000) (hV1 : 10 ≤ V) (hV2 : V ≤ 10000) (hA : A ≤ 1000) : PH (nr + 1) nd np st B W (roomG g nr (nI V) (nI A)) := by
  obtain ⟨hI, ⟨h2, h2', h2''⟩, h3, h4, h5, ⟨s7, s7a, s7b⟩, ⟨t, t1, t2, t3⟩, h8⟩ := hH
  have hnd := hI.2.1.2
  have hc := roomG_e hI (by omega) (nI V) (nI A)
  have hn := INV_room hI (by omega) hst hV1 hV2 (nI A)
  have ho : ∀ c, c ≠ 0 → c ≠ 9 + 6 * nr + 0 → c ≠ 9 + 6 * nr + 1 → c ≠ 9 + 6 * nr + 5 → roomG g nr (nI V) (nI A) c = g c := fun c a0 a1 a2 a3 => by rw [hc, upd_n _ _ a0, upd_n _ _ a3, upd_n _ _ a2, upd_n _ _ a1]
  have hp : planL (roomG g nr (nI V) (nI A)) np = planL g np := planL_congr (fun k hk => ent_congr (fun j j1 j2 => ho j (by omega) (by omega) (by omega) (by omega)))
  have hd3 : ∀ d w, d < nd → w < 3 → roomG g nr (nI V) (nI A) (57 + 10 * d + w) = g (57 + 10 * d + w) := fun d w hd hw => ho _ (by omega) (by omega) (by omega) (by omega)
  refine ⟨hn, ⟨by omega, h2', h2''⟩, fun r hr2 => ?_, fun r hr2 => ?_, PB_eq h5 (fun c hc => ?_), ⟨s7, by rw [ho 7 (by omega) (by omega) (by omega) (by omega)]; exact s7a, s7b⟩, ⟨t, by rw [ho 5 (by omega) (by omega) (by omega) (by omega)]; exact t1, by rw [hp]; exact t2, by rw [hp]; exact t3⟩, by rw [hp]; exact h8⟩
  · by_cases e : r = nr
    · subst e
      exact ⟨A, by rw [hc, upd_n _ _ (by omega), upd_n _ _ (by omega), upd_s], hA⟩
    · obtain ⟨a, a1, a2⟩ := h3 r (by omega)
      exact ⟨a, by rw [ho _ (by omega) (by omega) (by omega) (by omega)]; exact a1, a2⟩
  · have har : arN (roomG g nr (nI V) (nI A)) r nd = arN g r nd := nsm_congr (fun d hd => by rw [arF, arF, gN_congr (hd3 d 0 hd (by decide)), gN_congr (hd3 d 1 hd (by decide)), gN_congr (hd3 d 2 hd (by decide))])
    rw [har]
    by_cases e : r = nr
    · subst e
      have hz : ∀ n, n ≤ nd → arN g r n = 0 := by
        intro n
        induction n with
        | zero => intro _; rfl
        | succ n ih =>
          intro hn
          obtain ⟨a, b, -, -, -, -, -, -, ⟨q1, q1'⟩, ⟨q2, q2'⟩, -⟩ := (hI.2.2.2.2.2.1 n (by omega)).1 (by omega)
          have e0 : gN g (57 + 10 * n + 0) = a := gN_of q1 (by omega)
          have e1 : gN g (57 + 10 * n + 1) = b := gN_of q2 (by omega)
          have hN : arN g r (n + 1) = arN g r n + arF g r n := rfl
          rw [hN, ih (by omega), arF, e0, e1, if_neg (by omega)]
      rw [hz nd (Nat.le_refl _)]
      omega
    · rw [gN_congr (ho (9 + 6 * r + 0) (by omega) (by omega) (by omega) (by omega))]
      exact h4 r (by omega)
  · have hc2 : c = 4 ∨ (9 ≤ c ∧ c < 57 ∧ ((c - 9) % 6 = 2 ∨ (c - 9) % 6 = 3 ∨ (c - 9) % 6 = 4)) ∨ (177 ≤ c ∧ c < 321) := by
      rcases hc with z | z
      · unfold posC at z; omega
      · unfold gvC at z; omega
    exact ho c (by omega) (by omega) (by omega) (by omega)
theorem PH_door {nr nd np st B x y ar sp de : Nat} {W : Int} {g : Nat → Int32} (hH : PH nr nd np st B W g) (hd : nd < 4) (hx : x < nr) (hy : y < nr ∨ y = 8) (hxy : x ≠ y) (ha : 1 ≤ ar ∧ ar ≤ 1000) (hs : 1 ≤ sp ∧ sp ≤ 10) (hde : de ≤ 5) (hwx : arN g x nd + ar ≤ gN g (9 + 6 * x + 0)) (hwy : y < nr → arN g y nd + ar ≤ gN g (9 + 6 * y + 0)) : PH nr (nd + 1) np st B W (doorG g nd (nI x) (nI y) (nI ar) (nI sp) (nI de)) := by
  obtain ⟨hI, ⟨h2, h2', h2''⟩, h3, h4, h5, ⟨s7, s7a, s7b⟩, ⟨t, t1, t2, t3⟩, h8⟩ := hH
  have hc := doorG_e hI (by omega) (nI x) (nI y) (nI ar) (nI sp) (nI de)
  have hn := INV_newdoor hI (by omega) hx hy hxy ha hs hde
  have ho : ∀ c, c ≠ 1 → (c < 57 + 10 * nd ∨ 62 + 10 * nd ≤ c) → doorG g nd (nI x) (nI y) (nI ar) (nI sp) (nI de) c = g c := fun c a0 a1 => by rw [hc, upd_n _ _ a0, upd_n _ _ (by omega), upd_n _ _ (by omega), upd_n _ _ (by omega), upd_n _ _ (by omega), upd_n _ _ (by omega)]
  have hp : planL (doorG g nd (nI x) (nI y) (nI ar) (nI sp) (nI de)) np = planL g np := planL_congr (fun k hk => ent_congr (fun j j1 j2 => ho j (by omega) (by omega)))
  have e0 : gN (doorG g nd (nI x) (nI y) (nI ar) (nI sp) (nI de)) (57 + 10 * nd + 0) = x := gN_of (by rw [hc, upd_n _ _ (by omega), upd_n _ _ (by omega), upd_n _ _ (by omega), upd_n _ _ (by omega), upd_n _ _ (by omega), upd_s]) (by omega)
  have e1 : gN (doorG g nd (nI x) (nI y) (nI ar) (nI sp) (nI de)) (57 + 10 * nd + 1) = y := gN_of (by rw [hc, upd_n _ _ (by omega), upd_n _ _ (by omega), upd_n _ _ (by omega), upd_n _ _ (by omega), upd_s]) (by omega)
  have e2 : gN (doorG g nd (nI x) (nI y) (nI ar) (nI sp) (nI de)) (57 + 10 * nd + 2) = ar := gN_of (by rw [hc, upd_n _ _ (by omega), upd_n _ _ (by omega), upd_n _ _ (by omega), upd_s]) (by omega)
  refine ⟨hn, ⟨h2, by omega, h2''⟩, ABS_eq h3 (fun r hr => ho _ (by omega) (by omega)), fun r hr => ?_, PB_eq h5 (fun c hc => ?_), ⟨s7, by rw [ho 7 (by omega) (by omega)]; exact s7a, s7b⟩, ⟨t, by rw [ho 5 (by omega) (by omega)]; exact t1, by rw [hp]; exact t2, by rw [hp]; exact t3⟩, by rw [hp]; exact h8⟩
  · have hold : arN (doorG g nd (nI x) (nI y) (nI ar) (nI sp) (nI de)) r nd = arN g r nd := nsm_congr (fun d hd2 => by rw [arF, arF, gN_congr (ho (57 + 10 * d + 0) (by omega) (by omega)), gN_congr (ho (57 + 10 * d + 1) (by omega) (by omega)), gN_congr (ho (57 + 10 * d + 2) (by omega) (by omega))])
    have hN : arN (doorG g nd (nI x) (nI y) (nI ar) (nI sp) (nI de)) r (nd + 1) = arN (doorG g nd (nI x) (nI y) (nI ar) (nI sp) (nI de)) r nd + arF (doorG g nd (nI x) (nI y) (nI ar) (nI sp) (nI de)) r nd := rfl
    rw [hN, hold, arF, e0, e1, e2, gN_congr (ho (9 + 6 * r + 0) (by omega) (by omega))]
    have hr0 := h4 r hr
    by_cases z1 : x = r
    · subst z1
      rw [if_pos (Or.inl rfl)]; exact hwx
    · by_cases z2 : y = r
      · subst z2
        rw [if_pos (Or.inr rfl)]; exact hwy hr
      · rw [if_neg (by omega)]; omega
  · have hc2 : c = 4 ∨ (9 ≤ c ∧ c < 57) ∨ (177 ≤ c ∧ c < 321) := by
      rcases hc with z | z
      · unfold posC at z; omega
      · unfold gvC at z; omega
    exact ho c (by omega) (by omega)
theorem PH_put {nr nd np st B B' f kd wh sp mu : Nat} {W : Int} {g : Nat → Int32} (hH : PH nr nd np st B W g) (hnp : np < 8) (hE : EOK nr nd st (nI f, nI kd, nI wh, nI sp, nI mu)) (hf : f ≤ st + 5) (hf5 : f ≤ 5000) (hpd : pdE st (nI f, nI kd, nI wh, nI sp, nI mu) ≤ ((sp * mu : Nat) : Int)) (hB : 17 * ((sp * mu : Nat) : Int) + 1000000 * (B : Int) ≤ 1000000 * ((B' : Int) + 5 * rmE st (nI f, nI kd, nI wh, nI sp, nI mu))) : PH nr nd (np + 1) st B' W (putG g np (nI f) (nI kd) (nI wh) (nI sp) (nI mu)) := by
  obtain ⟨hI, ⟨h2, h2', h2''⟩, h3, h4, h5, ⟨s7, s7a, s7b⟩, ⟨t, t1, t2, t3⟩, h8⟩ := hH
  have hnd := hI.2.1.2
  have hn := INV_put hI (by omega) hE
  have ho : ∀ c, c < 321 → c ≠ 2 → c ≠ 5 → putG g np (nI f) (nI kd) (nI wh) (nI sp) (nI mu) c = g c := fun c a1 a2 a5 => putG_o (by omega) (by unfold sc; omega) a5
  have hl : ∀ w : zE → Int, lsm w (planL (putG g np (nI f) (nI kd) (nI wh) (nI sp) (nI mu)) (np + 1)) = lsm w (planL g np) + w (nI f, nI kd, nI wh, nI sp, nI mu) := fun w => by
    rw [planL_put (by omega), lsm_ins w (ent g) _ np (pos_le g _ np)]
    rfl
  refine ⟨hn, ⟨h2, h2', by omega⟩, ABS_eq h3 (fun r hr => ho _ (by omega) (by omega) (by omega)), WAL_eq h4 (fun r hr => ho _ (by omega) (by omega) (by omega)) (fun d w hd hw => ho _ (by omega) (by omega) (by omega)), PB_eq h5 (fun c hc => ?_), ⟨s7, by rw [ho 7 (by omega) (by omega) (by omega)]; exact s7a, s7b⟩, ⟨t + sp * mu, ?_, ?_, ?_⟩, fun e he => ?_⟩
  · have hc2 : c = 4 ∨ (9 ≤ c ∧ c < 57) ∨ (177 ≤ c ∧ c < 321) := by
      rcases hc with z | z
      · unfold posC at z; omega
      · unfold gvC at z; omega
    exact ho c (by omega) (by omega) (by omega)
  · rw [putG_5, t1, pk_mul, nI_add]
  · rw [hl, Int.natCast_add]; omega
  · rw [hl, Int.natCast_add]; omega
  · rw [planL_put (by omega)] at he
    obtain ⟨k, hk, rfl⟩ := pl_mem he
    unfold insF
    split
    · exact h8 _ (List.mem_of_getElem? (i := k) (by rw [planL_get, if_pos (by have := pos_le g (nI f) np; omega)]))
    · split
      · show (nI f).toInt ≤ _
        rw [nI_toInt (by omega)]; omega
      · exact h8 _ (List.mem_of_getElem? (i := k - 1) (by rw [planL_get, if_pos (by omega)]))
theorem PH_cancel {nr nd np st B i : Nat} {W : Int} {g : Nat → Int32} (hH : PH nr nd np st B W g) (hst : st < 100000) (hi : i < np) : PH nr nd (np - 1) st (B + 240) W (lvs g i np) := by
  obtain ⟨hI, ⟨h2, h2', h2''⟩, h3, h4, h5, ⟨s7, s7a, s7b⟩, ⟨t, t1, t2, t3⟩, h8⟩ := hH
  have hnd := hI.2.1.2
  have hn := INV_lvs hI hi
  have ho : ∀ c, c < 321 → c ≠ 2 → lvs g i np c = g c := fun c a1 a2 => lvs_o g a2 (Or.inl a1) hI.2.2.1.2
  have hpi : (planL g np)[i]? = some (ent g i) := by rw [planL_get, if_pos hi]
  have hl : ∀ w : zE → Int, lsm w (planL (lvs g i np) (np - 1)) + w (ent g i) = lsm w (planL g np) := fun w => by
    rw [planL_lvs g hi]
    exact lsm_erase w _ _ _ hpi
  have hEi := hI.2.2.2.2.2.2.1 i hi
  have l1 := hl (pdE st)
  have l2 := hl (rmE st)
  have e1 := (ent_step hEi hst).2.2
  have e2 := rm_25 hEi (h8 _ (List.mem_of_getElem? hpi))
  refine ⟨hn, ⟨h2, h2', by omega⟩, ABS_eq h3 (fun r hr => ho _ (by omega) (by omega)), WAL_eq h4 (fun r hr => ho _ (by omega) (by omega)) (fun d w hd hw => ho _ (by omega) (by omega)), PB_eq h5 (fun c hc => ?_), ⟨s7, by rw [ho 7 (by omega) (by omega)]; exact s7a, s7b⟩, ⟨t, by rw [ho 5 (by omega) (by omega)]; exact t1, by omega, by omega⟩, fun e he => ?_⟩
  · have hc2 : c = 4 ∨ (9 ≤ c ∧ c < 57) ∨ (177 ≤ c ∧ c < 321) := by
      rcases hc with z | z
      · unfold posC at z; omega
      · unfold gvC at z; omega
    exact ho c (by omega) (by omega)
  · rw [planL_lvs g hi] at he
    exact h8 e (List.mem_of_mem_eraseIdx he)
/-- a sound told -/
theorem PH_sound {nr nd np st B f wh sp mu : Nat} {W : Int} {g : Nat → Int32} (hH : PH nr nd np st B W g) (hnp : np < 8) (hf0 : st ≤ f) (hf : f ≤ st + 5) (hf5 : f ≤ 5000) (hw : wh < nr) (h1 : 1 ≤ sp) (h20 : sp ≤ 20) (hm : mu ≤ 1000000) : PH nr nd (np + 1) st (B + 240) W (putG g np (nI f) (nI 0) (nI wh) (nI sp) (nI mu)) := by
  have hE : EOK nr nd st (nI f, nI 0, nI wh, nI sp, nI mu) := ⟨f, 0, wh, sp, mu, rfl, hf5, Or.inl ⟨rfl, hw, h1, h20, by omega, hm⟩⟩
  have tf : (nI f).toInt = (f : Int) := nI_toInt (by omega)
  have ts : (nI sp).toInt = (sp : Int) := nI_toInt (by omega)
  have tm : (nI mu).toInt = (mu : Int) := nI_toInt (by omega)
  have hmul : sp * mu ≤ sp * 1000000 := Nat.mul_le_mul_left _ hm
  refine PH_put hH hnp hE hf hf5 ?_ ?_
  · have hp : pdE st (nI f, nI 0, nI wh, nI sp, nI mu) = (mu : Int) * (if (f : Int) ≤ st then (f : Int) + sp - st else sp) := by
      unfold pdE
      rw [if_pos rfl]
      show (nI mu).toInt * (if (nI f).toInt ≤ (st : Int) then (nI f).toInt + (nI sp).toInt - st else (nI sp).toInt) = _
      rw [tf, ts, tm]
    rw [hp, Int.natCast_mul, Int.mul_comm]
    split
    · rw [show (f : Int) + sp - st = sp by omega]; omega
    · omega
  · have hr : rmE st (nI f, nI 0, nI wh, nI sp, nI mu) = (f : Int) + sp - st := by
      unfold rmE
      rw [if_pos rfl]
      show (nI f).toInt + (nI sp).toInt - st = _
      rw [tf, ts]
    rw [hr]
    omega
/-- a target planned -/
theorem PH_target {nr nd np st B f wh mu : Nat} {W : Int} {g : Nat → Int32} (hH : PH nr nd np st B W g) (hnp : np < 8) (hf0 : st ≤ f) (hf : f ≤ st + 5) (hf5 : f ≤ 5000) (hw : wh < nd) (hm : mu ≤ 10) : PH nr nd (np + 1) st B W (putG g np (nI f) (nI 1) (nI wh) (nI 0) (nI mu)) := by
  have hE : EOK nr nd st (nI f, nI 1, nI wh, nI 0, nI mu) := ⟨f, 1, wh, 0, mu, rfl, hf5, Or.inr ⟨rfl, hw, rfl, hf0, hm⟩⟩
  have hp : pdE st (nI f, nI 1, nI wh, nI 0, nI mu) = 0 := if_neg nI10
  have hr : rmE st (nI f, nI 1, nI wh, nI 0, nI mu) = 0 := if_neg nI10
  refine PH_put hH hnp hE hf hf5 ?_ ?_
  · rw [hp, Nat.zero_mul]; omega
  · rw [hr, Nat.zero_mul]; omega

