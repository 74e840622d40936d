/-! THE CLASS AND THE REFERENCE: what is asked comes to the same -/
theorem sumI_ext {f h : Nat → Int32} {n N : Nat} (hn : n ≤ N) (h1 : ∀ i, i < n → f i = h i) (h2 : ∀ i, n ≤ i → i < N → f i = 0) : sumI f N = sumI h n := by
  have : ∀ d, n + d ≤ N → sumI f (n + d) = sumI h n := by
    intro d
    induction d with
    | zero => intro _; exact sumI_congr h1
    | succ d ih =>
      intro hd
      rw [← Nat.add_assoc, sumI_s, ih (by omega), h2 (n + d) (by omega) (by omega), Int32.add_zero]
  have := this (N - n) (by omega)
  rw [show n + (N - n) = N by omega] at this
  exact this
theorem dn_eq {I : zII} {a nr nd np st : Nat} {g : Nat → Int32} {so sw : Nat → Nat} (hG : z_HR I a g so sw) (hI : INV nr nd np st g) {b : Nat} (hb : b ≤ 8) (hbv : b < 8 → b < nr ∧ ∃ v, g (9 + 6 * b + 0) = nI v ∧ 10 ≤ v ∧ v ≤ 10000) : dnC I a nr (nI b) = dens g b := by
  have hnr := hI.1.2
  rw [dnC, dens]
  by_cases h8 : b = 8
  · rw [if_pos (Or.inr ((nI_leI (by omega) (by omega)).mpr (by omega))), if_pos h8]
  · obtain ⟨hbn, v, v1, v2, v3⟩ := hbv (by omega)
    rw [if_neg h8, if_neg, nI_clamp (by omega), if_neg, HR_room hG (by omega) (by decide), HR_room hG (by omega) (by decide)]
    · rw [HR_room hG (by omega) (by decide), v1]
      exact Int32.not_le.mpr (by rw [← nI_0]; exact nI_lt (by omega) (by omega))
    · rintro (z | z)
      · exact nI_pos (n := b) (by omega) z
      · have := (nI_leI (by omega) (by omega)).mp z
        omega
theorem rs_eq {I : zII} {a nr nd np st : Nat} {g : Nat → Int32} {so sw : Nat → Nat} (hG : z_HR I a g so sw) (hI : INV nr nd np st g) {d : Nat} (hd : d < nd) (t : Int32) : rsC I a nr d t = rsn g d t := by
  have hnd := hI.2.1.2
  obtain ⟨b, hb, hb8, hbv⟩ := INV_side hI hd (s := 0) (by decide)
  obtain ⟨b', hb', hb8', hbv'⟩ := INV_side hI hd (s := 1) (by decide)
  obtain ⟨sa, sb, ar, sp, de, o, t', l, -, -, -, -, -, -, -, -, g8⟩ := (hI.2.2.2.2.2.1 d (by omega)).1 hd
  have e6 : I (a + 38 + 5 * d) 6 = nI l := by rw [HR_door hG (by omega) (by decide) (by decide)]; exact g8.1
  have e7 : g (57 + 10 * d + 7) = nI l := g8.1
  have s0 : I (a + 38 + 5 * d + 1) 0 = nI b := by rw [HR_side hG (by omega) (by decide)]; exact hb
  have s1 : I (a + 38 + 5 * d + 1) 1 = nI b' := by rw [HR_side hG (by omega) (by decide)]; exact hb'
  have hdf : absI (dnC I a nr (I (a + 38 + 5 * d + 1) 0) - dnC I a nr (I (a + 38 + 5 * d + 1) 1)) = absI (difB g d) := by
    rw [s0, s1, dn_eq hG hI hb8 hbv, dn_eq hG hI hb8' hbv', difB, gN_of hb (by omega), gN_of hb' (by omega)]
  rw [rsC, rsn, e6, e7, hdf, HR_door hG (by omega) (by decide) (by decide), HR_door hG (by omega) (by decide) (by decide), (HR_sc hG).2.2.2.2.2.2.1, zI1, zI2]
  rcases (show l = 0 ∨ l = 1 by omega) with rfl | rfl
  · rw [if_neg (fun z => z nI_0), if_neg z_n01]
    rfl
  · rw [if_pos z_n10, if_pos zI1]
theorem doors_eq {I : zII} {a nr nd np st : Nat} {g : Nat → Int32} {so sw : Nat → Nat} (hG : z_HR I a g so sw) (hI : INV nr nd np st g) (v : Int32) : sumI (fun d => atC I a v d) 12 = doorsN g v nd := by
  have hnd := hI.2.1.2
  refine sumI_ext hnd (fun d hd => ?_) (fun d h1 h2 => ?_)
  · obtain ⟨sa, sb, ar, sp, de, o, t', l, -, -, -, g4, -⟩ := (hI.2.2.2.2.2.1 d (by omega)).1 hd
    rw [atC, HR_door hG (by omega) (by decide) (by decide), HR_side hG (by omega) (by decide), HR_side hG (by omega) (by decide), if_neg]
    rw [show (1 : Nat) + 1 = 2 from rfl, g4.1]
    exact Int32.not_le.mpr (by rw [← nI_0]; exact nI_lt (by omega) (by omega))
  · rw [atC, HR_door hG (by omega) (by decide) (by decide), if_pos]
    rw [((hI.2.2.2.2.2.1 d h2).2 h1).1 _ (by decide)]
    decide
theorem areas_eq {I : zII} {a nr nd np st : Nat} {g : Nat → Int32} {so sw : Nat → Nat} (hG : z_HR I a g so sw) (hI : INV nr nd np st g) (v : Int32) : sumI (fun d => arC I a v d) 12 = areas g v nd := by
  have hnd := hI.2.1.2
  refine sumI_ext hnd (fun d hd => ?_) (fun d h1 h2 => ?_)
  · obtain ⟨sa, sb, ar, sp, de, o, t', l, -, -, -, g4, -⟩ := (hI.2.2.2.2.2.1 d (by omega)).1 hd
    rw [arC, atC, HR_door hG (by omega) (by decide) (by decide), HR_side hG (by omega) (by decide), HR_side hG (by omega) (by decide), if_neg (c := g (57 + 10 * d + (1 + 1)) ≤ 0)]
    · by_cases h : g (57 + 10 * d + 0) = v ∨ g (57 + 10 * d + 1) = v
      · rw [if_pos h, if_neg z_01]
        exact (if_pos h).symm
      · rw [if_neg h, if_pos rfl]
        exact (if_neg h).symm
    · rw [show (1 : Nat) + 1 = 2 from rfl, g4.1]
      exact Int32.not_le.mpr (by rw [← nI_0]; exact nI_lt (by omega) (by omega))
  · rw [arC, if_pos]
    rw [atC, HR_door hG (by omega) (by decide) (by decide), if_pos]
    rw [((hI.2.2.2.2.2.1 d h2).2 h1).1 _ (by decide)]
    decide
theorem hear_eq {nr nd st np : Nat} {g : Nat → Int32} {F : Nat → zE} (hst : st < 100000) (hI : INV nr nd np st g) (hF : pl F np = planL g np) (x : Int32) : hearN F x (nI st) np = hrN g x np := by
  unfold hearN hrN
  refine sumI_congr (fun k hk => ?_)
  have he := pl_ent hF hk
  have hE := hI.2.2.2.2.2.2.1 k hk
  have h1 := EOK_he hE hst
  have h2 : hrd g k x ↔ ((ent g k).2.2.1 = x ∧ heE (nI st) (ent g k)) := by
    unfold hrd
    rw [hI.2.2.2.1]
    exact ⟨fun z => ⟨z.2.1, z.1, z.2.2.1, z.2.2.2⟩, fun z => ⟨z.2.1, z.1, z.2.2.1, z.2.2.2⟩⟩
  rw [he]
  by_cases z : hrd g k x
  · rw [if_pos z, if_pos ⟨(h2.mp z).1, h1.mp (h2.mp z).2⟩]
  · rw [if_neg z, if_neg (fun y => z (h2.mpr ⟨y.1, h1.mpr y.2⟩))]
/-- a ring's sum, wherever it begins -/
theorem ring_eq {f w : Nat → Int32} {st : Nat} (h : ∀ s k, s < 2 → k < 6 → f (2 * ((st + k) % 6) + (1 - s)) = w (6 * s + k)) : sumI f 12 = sumI w 12 := by
  have hc : st % 6 < 6 := Nat.mod_lt _ (by decide)
  have h' : ∀ s k, s < 2 → k < 6 → f (2 * ((st % 6 + k) % 6) + (1 - s)) = w (6 * s + k) := fun s k hs hk => by
    rw [← h s k hs hk, show (st % 6 + k) % 6 = (st + k) % 6 by omega]
  generalize st % 6 = c at hc h'
  have q0 := h' 0 0 (by decide) (by decide)
  have q1 := h' 0 1 (by decide) (by decide)
  have q2 := h' 0 2 (by decide) (by decide)
  have q3 := h' 0 3 (by decide) (by decide)
  have q4 := h' 0 4 (by decide) (by decide)
  have q5 := h' 0 5 (by decide) (by decide)
  have q6 := h' 1 0 (by decide) (by decide)
  have q7 := h' 1 1 (by decide) (by decide)
  have q8 := h' 1 2 (by decide) (by decide)
  have q9 := h' 1 3 (by decide) (by decide)
  have qa := h' 1 4 (by decide) (by decide)
  have qb := h' 1 5 (by decide) (by decide)
  simp only [sumI]
  rcases (show c = 0 ∨ c = 1 ∨ c = 2 ∨ c = 3 ∨ c = 4 ∨ c = 5 by omega) with rfl | rfl | rfl | rfl | rfl | rfl <;>
  · simp only [Nat.reduceAdd, Nat.reduceMod, Nat.reduceMul, Nat.reduceSub] at q0 q1 q2 q3 q4 q5 q6 q7 q8 q9 qa qb
    rw [← q0, ← q1, ← q2, ← q3, ← q4, ← q5, ← q6, ← q7, ← q8, ← q9, ← qa, ← qb]
    ac_rfl
theorem onway_eq {I : zII} {a st : Nat} {g : Nat → Int32} {so : Nat → Nat} (hG : z_HR I a g so (fun _ => st)) {d : Nat} (hd : d < 12) : sumI (fun k => I (a + 38 + 5 * d + 4) k) 12 = sumI (fun i => g (177 + 12 * d + i)) 12 :=
  ring_eq (st := st) (fun s k hs hk => by
    have := HR_way hG hd hs hk
    rw [show 177 + 12 * d + (6 * s + k) = 177 + 12 * d + 6 * s + k by omega]
    exact this)
theorem allW_eq {I : zII} {a st nr nd np : Nat} {g : Nat → Int32} {so : Nat → Nat} (hG : z_HR I a g so (fun _ => st)) (hI : INV nr nd np st g) : sumI (fun d => sumI (fun k => I (a + 38 + 5 * d + 4) k) 12) 12 = allW g := by
  have hnd := hI.2.1.2
  rw [allW, gN_of hI.2.1.1 (by omega)]
  refine sumI_ext hnd (fun d hd => onway_eq hG (by omega)) (fun d h1 h2 => ?_)
  rw [onway_eq hG h2]
  have z : ∀ i, i < 12 → g (177 + 12 * d + i) = 0 := ((hI.2.2.2.2.2.1 d h2).2 h1).2
  rw [sumI_congr (h := fun _ => 0) z]
  decide
theorem allR_eq {I : zII} {a st nr nd np : Nat} {g : Nat → Int32} {so sw : Nat → Nat} (hG : z_HR I a g so sw) (hI : INV nr nd np st g) {w : Nat} (hw : w < 6) : sumI (fun i => I (a + 22 + 2 * i) w) 8 = allR g w := by
  have hnr := hI.1.2
  rw [allR, gN_of hI.1.1 (by omega)]
  exact sumI_ext hnr (fun r hr => HR_room hG (by omega) hw) (fun r h1 h2 => by
    rw [HR_room hG h2 hw]
    exact ((hI.2.2.2.2.1 r h2).2 h1).1 w hw)
theorem hs_eq {F : Nat → zE} {g : Nat → Int32} {np : Nat} (hF : pl F np = planL g np) : ∀ k, k ≤ np → hsF F k = hsS g k := by
  intro k
  induction k with
  | zero => intro _; rfl
  | succ k ih =>
    intro hk
    rw [hsF, hsS, ih (by omega), pl_ent hF (by omega)]
    rfl
theorem en_eq {I : zII} {a nr nd np st : Nat} {g : Nat → Int32} {so sw : Nat → Nat} (hG : z_HR I a g so sw) (hI : INV nr nd np st g) {r : Nat} (hr : r < nr) : enC I a nr (nI r) = g (9 + 6 * r + 2) := by
  have hnr := hI.1.2
  rw [enC, if_neg, nI_clamp (by omega)]
  · exact HR_room hG (by omega) (by decide)
  · rintro (z | z)
    · exact nI_pos (n := r) (by omega) z
    · have := (nI_leI (by omega) (by omega)).mp z
      omega


