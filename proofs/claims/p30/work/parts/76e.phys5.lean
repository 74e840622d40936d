/-! A HOUSE OF THIS LAW: what is kept, and a step of it -/
def PH (nr nd np st B : Nat) (W : Int) (g : Nat → Int32) : Prop := INV nr nd np st g ∧ (nr ≤ 4 ∧ nd ≤ 4 ∧ np ≤ 8) ∧ ABS nr g ∧ WAL nr nd g ∧ PB W g ∧ (∃ s : Nat, g 7 = nI s ∧ s ≤ 1000000) ∧ (∃ t : Nat, g 5 = nI t ∧ W + lsm (pdE st) (planL g np) ≤ t ∧ 17 * (t : Int) ≤ 1000000 * ((B : Int) + 5 * lsm (rmE st) (planL g np))) ∧ ∀ e, e ∈ planL g np → e.1.toInt ≤ st + 5
theorem EOK_in {nr nd np st : Nat} {g : Nat → Int32} (hI : INV nr nd np st g) {e : zE} (he : e ∈ planL g np) : EOK nr nd st e := by
  obtain ⟨k, hk, rfl⟩ := planL_in he
  exact hI.2.2.2.2.2.2.1 k hk
theorem rm_25 {nr nd st : Nat} {e : zE} (hE : EOK nr nd st e) (hf : e.1.toInt ≤ st + 5) : rmE st e ≤ 25 ∧ 0 ≤ rmE st e := by
  obtain ⟨f, kd, wh, sp, mu, rfl, h5, hc⟩ := hE
  have tf : (nI f).toInt = (f : Int) := nI_toInt (by omega)
  have hf : (nI f).toInt ≤ st + 5 := hf
  rcases hc with ⟨rfl, h1, h2, h3, h4, h6⟩ | ⟨rfl, h1, rfl, h3, h4⟩
  · have ts : (nI sp).toInt = (sp : Int) := nI_toInt (by omega)
    have : rmE st (nI f, nI 0, nI wh, nI sp, nI mu) = (nI f).toInt + (nI sp).toInt - st := if_pos rfl
    omega
  · have : rmE st (nI f, nI 1, nI wh, nI 0, nI mu) = 0 := if_neg nI10
    omega
theorem PH_rm {nr nd np st B : Nat} {W : Int} {g : Nat → Int32} (h : PH nr nd np st B W g) : lsm (rmE st) (planL g np) ≤ 200 := by
  obtain ⟨hI, ⟨-, -, h8⟩, -, -, -, -, -, hf⟩ := h
  have := lsm_le (f := rmE st) (h := fun _ => 25) (l := planL g np) (fun e he => (rm_25 (EOK_in hI he) (hf e he)).1)
  rw [lsm_c, planL_len] at this
  omega
theorem PH_t {nr nd np st B : Nat} {W : Int} {g : Nat → Int32} (h : PH nr nd np st B W g) (hB : B ≤ 15800) : ∃ t : Nat, g 5 = nI t ∧ t ≤ 990000000 ∧ W + lsm (pdE st) (planL g np) ≤ t ∧ 17 * (t : Int) ≤ 1000000 * ((B : Int) + 5 * lsm (rmE st) (planL g np)) := by
  have h2 := PH_rm h
  obtain ⟨-, -, -, -, -, -, ⟨t, t1, t2, t3⟩, -⟩ := h
  exact ⟨t, t1, by omega, t2, t3⟩
theorem PH_step {nr nd np st B : Nat} {W : Int} {g : Nat → Int32} (h : PH nr nd np st B W g) (hst0 : st < 90000) (hB : B ≤ 15800) : ∃ (np' : Nat) (W' : Int), PH nr nd np' (st + 1) (B + 40) W' (mStep g) ∧ PB W' (mS4 g) ∧ PB W' (mS5 g) ∧ ABS nr (mS4 g) := by
  have hst : st < 100000 := by omega
  obtain ⟨t, t1, tb, t2, t3⟩ := PH_t h hB
  obtain ⟨hI, ⟨h4, h4', h8⟩, hA, hW, hP, ⟨s7, s7a, s7b⟩, -, hf⟩ := h
  obtain ⟨np2, np4, ⟨i1, e1, p1⟩, ⟨i2, e2, p2, s2⟩, ⟨i3, e3, p3⟩, ⟨i4, e4, p4, s4⟩, ⟨i5, e5⟩, ⟨i6, e6⟩, ⟨i7, e7⟩, ⟨i8, p8⟩⟩ := step_facts hI hst
  have still := fun c (hc : stl c) => step_still hI hst hc
  have pg : ∀ c, posC c ∨ gvC c → c = 4 ∨ (9 ≤ c ∧ c < 57) ∨ (177 ≤ c ∧ c < 321) := by
    intro c hc
    rcases hc with z | z
    · unfold posC at z; omega
    · unfold gvC at z; omega
  have pgs : ∀ c, posC c ∨ gvC c → sc c := fun c hc => by have := pg c hc; unfold sc; omega
  have b1 : PB W (mS1 g) := PB_eq hP (fun c hc => by rw [e1]; exact oldN_o _ _ _ (by have := pg c hc; omega))
  have b2 : PB W (mS2 g) := PB_eq b1 (fun c hc => (s2 c (pgs c hc)).trans (aimL_b _ (fun x hx => by have := pg c hc; omega) _ _ (INV_sm hI)))
  have b3 : PB W (mS3 g) := PB_eq b2 (fun c hc => by have := pg c hc; rw [e3]; exact movN_o _ _ _ (by omega) (fun i hi => by have := i2.2.1.2; omega))
  have hnn : 0 ≤ lsm (pdE (st + 1)) (planL (mStep g) np4) := by
    have := lsm_le (f := fun _ => 0) (h := pdE (st + 1)) (l := planL (mStep g) np4) (fun e he => (ent_step (EOK_in i8 he) (by omega)).2.2)
    rw [lsm_c] at this
    omega
  have hp : lsm (pdE st) (planL g np) = lsm (muT (nI st)) (planL g np) + lsm (pdE (st + 1)) (planL (mStep g) np4) := by
    rw [p8, p4, p3, p2, lsm_filter, lsm_filter, ← lsm_add]
    exact lsm_congr (fun e he => (ent_step (EOK_in hI he) hst).1)
  have hr : lsm (rmE st) (planL g np) ≤ lsm (rmE (st + 1)) (planL (mStep g) np4) + 8 := by
    have q : lsm (rmE st) (planL g np) ≤ lsm (fun e => (if keepT (nI st) e = true then (if keepS (nI st) e = true then rmE (st + 1) e else 0) else 0) + 1) (planL g np) := lsm_le (fun e he => (ent_step (EOK_in hI he) hst).2.1)
    rw [lsm_add, lsm_c, planL_len] at q
    rw [p8, p4, p3, p2, lsm_filter, lsm_filter]
    omega
  have hmu : lsm (muT (nI st)) (planL (mS3 g) np2) = lsm (muT (nI st)) (planL g np) := by
    rw [p3, p2, lsm_filter]
    refine lsm_congr (fun e he => ?_)
    split
    · rfl
    · next z =>
      have z2 : keepT (nI st) e = false := by
        cases hk : keepT (nI st) e with
        | true => exact absurd hk z
        | false => rfl
      exact (if_neg (fun y => keepT_he z2 y.1)).symm
  have b4 : PB (W + lsm (muT (nI st)) (planL g np)) (mS4 g) := by
    rw [← hmu]
    refine PB_eq (give_PB (planL (mS3 g) np2) b3 (fun e he hh => ⟨(INV_sm i3 e he).2 hh.1, ?_⟩) (by rw [hmu]; omega)) (fun c hc => s4 c (pgs c hc))
    obtain ⟨f, kd, wh, sp, mu, rfl, h5, hc⟩ := EOK_in i3 he
    have : (nI mu).toInt = (mu : Int) := nI_toInt (by omega)
    show 0 ≤ (nI mu).toInt
    omega
  have a4 : ABS nr (mS4 g) := ABS_eq hA (fun r hr => (still _ (stl_r (by omega) (Or.inr rfl))).2.2.2.1)
  have w5 : WAL nr nd (mS5 g) := WAL_eq hW (fun r hr => (still _ (stl_r (by omega) (Or.inl rfl))).2.2.2.2.1) (fun d w hd hw => (still _ (stl_d (by omega) (by omega))).2.2.2.2.1)
  have b5 : PB (W + lsm (muT (nI st)) (planL g np)) (mS5 g) := by rw [e5]; exact abs_PB b4 a4 (by omega) nr (Nat.le_refl _)
  have b6 : PB (W + lsm (muT (nI st)) (planL g np)) (mS6 g) := by rw [e6]; exact (send_PB i5 b5 w5 _ (Nat.le_refl _)).1
  have b7 : PB (W + lsm (muT (nI st)) (planL g np)) (mS7 g) := by rw [e7]; exact arr_PB i6 b6 _ (Nat.le_refl _)
  have b8 : PB (W + lsm (muT (nI st)) (planL g np)) (mStep g) := PB_eq b7 (fun c hc => by rw [mStep]; exact upd_n _ _ (by have := pg c hc; omega))
  have l4 : np4 ≤ np := by
    have l1 := planL_len (mStep g) np4
    rw [p8, p4, p3, p2] at l1
    have l2 := List.length_filter_le (keepS (nI st)) ((planL g np).filter (keepT (nI st)))
    have l3 := List.length_filter_le (keepT (nI st)) (planL g np)
    rw [planL_len] at l3
    omega
  refine ⟨np4, _, ⟨i8, ⟨h4, h4', by omega⟩, ABS_eq hA (fun r hr => (still _ (stl_r (by omega) (Or.inr rfl))).2.2.2.2.2.2.2), WAL_eq hW (fun r hr => (still _ (stl_r (by omega) (Or.inl rfl))).2.2.2.2.2.2.2) (fun d w hd hw => (still _ (stl_d (by omega) (by omega))).2.2.2.2.2.2.2), b8, ⟨s7, ?_, s7b⟩, ⟨t, ?_, by omega, by omega⟩, fun e he => ?_⟩, b4, b5, a4⟩
  · rw [(still 7 (by unfold stl; omega)).2.2.2.2.2.2.2]; exact s7a
  · rw [(still 5 (by unfold stl; omega)).2.2.2.2.2.2.2]; exact t1
  · rw [p8, p4, p3, p2] at he
    have := hf e (List.mem_filter.mp (List.mem_filter.mp he).1).1
    omega

