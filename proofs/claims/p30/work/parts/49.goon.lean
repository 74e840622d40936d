/-! THE CLASS, a step of a house -/
/-- a house that holds the row g at the step st -/
def z_Hs (T : zTT) (R : zRR) (I : zII) (a st : Nat) (g : Nat → Int32) : Prop := z_House T R a ∧ ∃ (nr nd np : Nat) (F : Nat → zE), INV nr nd np st g ∧ z_HR I a g (fun _ => st) (fun _ => st) ∧ z_P T I R (a + 3) np F ∧ pl F np = planL g np
theorem pl_ent {F : Nat → zE} {g : Nat → Int32} {np k : Nat} (h : pl F np = planL g np) (hk : k < np) : F k = ent g k := by
  have := congrArg (fun l => l[k]?) h
  rw [pl_get hk, planL_get, if_pos hk] at this
  exact Option.some.inj this
theorem pl_mem {F : Nat → zE} {np : Nat} {e : zE} (h : e ∈ pl F np) : ∃ k, k < np ∧ F k = e := by
  obtain ⟨k, hk, he⟩ := List.mem_map.mp h
  exact ⟨k, List.mem_range.mp hk, he⟩
theorem sum_pl (w : zE → Int32) (F : Nat → zE) : ∀ n : Nat, sumI (fun k => w (F k)) n = (pl F n).foldl (fun s e => s + w e) 0
  | 0 => rfl
  | n + 1 => by
    rw [sumI_s, sum_pl w F n, pl_s, List.foldl_append]
    rfl
theorem fold_filter (w w' : zE → Int32) (p : zE → Bool) : ∀ (l : List zE) (s : Int32), (∀ e ∈ l, (p e = false → w e = 0) ∧ (p e = true → w e = w' e)) → l.foldl (fun s e => s + w e) s = (l.filter p).foldl (fun s e => s + w' e) s
  | [], _, _ => rfl
  | e :: l, s, h => by
    have h1 := h e List.mem_cons_self
    have h2 : ∀ e ∈ l, (p e = false → w e = 0) ∧ (p e = true → w e = w' e) := fun x hx => h x (List.mem_cons_of_mem _ hx)
    rw [List.filter_cons]
    cases hp : p e with
    | false =>
      rw [if_neg (by decide), List.foldl_cons, h1.1 hp, Int32.add_zero]
      exact fold_filter w w' p l s h2
    | true =>
      rw [if_pos rfl, List.foldl_cons, List.foldl_cons, h1.2 hp]
      exact fold_filter w w' p l _ h2
theorem give_filter (t : Int32) (p : zE → Bool) : ∀ (l : List zE) (h : Nat → Int32), (∀ e ∈ l, p e = false → ¬ heE t e) → giveL t h l = giveL t h (l.filter p)
  | [], _, _ => rfl
  | e :: l, h, hp => by
    have h2 : ∀ e ∈ l, p e = false → ¬ heE t e := fun x hx => hp x (List.mem_cons_of_mem _ hx)
    rw [List.filter_cons]
    cases he : p e with
    | false =>
      rw [if_neg (by decide)]
      show giveL t (giveE t h e) l = _
      rw [giveE, if_neg (hp e List.mem_cons_self he)]
      exact give_filter t p l h h2
    | true =>
      rw [if_pos rfl]
      show giveL t (giveE t h e) l = giveL t (giveE t h e) (l.filter p)
      exact give_filter t p l _ h2
theorem keepT_he {t : Int32} {e : zE} (h : keepT t e = false) : ¬ e.2.1 = 0 := by
  unfold keepT at h
  rw [Bool.not_eq_false', decide_eq_true_eq] at h
  intro z
  rw [h.1] at z
  exact absurd z (by decide)
theorem hear_hr {nr nd st np np2 : Nat} {g : Nat → Int32} {F : Nat → zE} (hst : st < 100000) (hE : ∀ k, k < np → EOK nr nd st (F k)) (h3 : g 3 = nI st) (hp : planL g np2 = (pl F np).filter (keepT (nI st))) (x : Int32) : hearN F x (nI st) np = hrN g x np2 := by
  have e1 : hrN g x np2 = (planL g np2).foldl (fun s e => s + if e.2.2.1 = x ∧ heE (nI st) e then 1 else 0) 0 := by
    rw [show planL g np2 = pl (ent g) np2 from rfl, ← sum_pl]
    unfold hrN
    refine sumI_congr (fun k _ => ?_)
    have : hrd g k x ↔ ((ent g k).2.2.1 = x ∧ heE (nI st) (ent g k)) := by
      unfold hrd
      rw [h3]
      exact ⟨fun z => ⟨z.2.1, z.1, z.2.2.1, z.2.2.2⟩, fun z => ⟨z.2.1, z.1, z.2.2.1, z.2.2.2⟩⟩
    by_cases z : hrd g k x
    · rw [if_pos z, if_pos (this.mp z)]
    · rw [if_neg z, if_neg (fun y => z (this.mpr y))]
  have e2 : hearN F x (nI st) np = (pl F np).foldl (fun s e => s + if e.2.2.1 = x ∧ hcC (nI st) e then 1 else 0) 0 := by
    rw [← sum_pl]
    rfl
  rw [e1, e2, hp]
  refine fold_filter _ _ _ _ _ (fun e he => ?_)
  obtain ⟨k, hk, rfl⟩ := pl_mem he
  refine ⟨fun z => if_neg (fun y => keepT_he z (y.2.1.trans nI_0)), fun _ => ?_⟩
  have := EOK_he (hE k hk) hst
  by_cases y : (F k).2.2.1 = x ∧ hcC (nI st) (F k)
  · rw [if_pos y, if_pos ⟨y.1, this.mpr y.2⟩]
  · rw [if_neg y, if_neg (fun q => y ⟨q.1, this.mp q.2⟩)]
theorem keepC_e {nr nd st : Nat} {e : zE} (h : EOK nr nd st e) (hst : st < 100000) : keepC (nI st) e = (keepS (nI st) e && keepT (nI st) e) := by
  obtain ⟨f, kd, wh, sp, mu, rfl, hf, hc⟩ := h
  rcases hc with ⟨rfl, -, h1, h2, h3, -⟩ | ⟨rfl, -, -, h4, -⟩
  · have q1 : keepT (nI st) (nI f, nI 0, nI wh, nI sp, nI mu) = true := by
      unfold keepT
      rw [Bool.not_eq_true', decide_eq_false_iff_not]
      rintro ⟨z, -⟩
      exact z_n01 z
    rw [q1, Bool.and_true]
    unfold keepC keepS
    congr 1
    have e1 : endC (nI st) (nI f, nI 0, nI wh, nI sp, nI mu) ↔ f + sp = st + 1 := by
      show (if nI 0 = nI 0 then ¬ nI st < nI f + nI sp - 1 else ¬ nI st < nI f) ↔ _
      rw [if_pos rfl, nI_add, show f + sp = (f + sp - 1) + 1 by omega, nI_pred, nI_ltI (by omega) (by omega)]
      omega
    have e2 : enE (nI st) (nI f, nI 0, nI wh, nI sp, nI mu) ↔ f + sp = st + 1 := by
      constructor
      · rintro ⟨-, z⟩
        have z : nI f + nI sp - 1 = nI st := z
        rw [nI_add, show f + sp = (f + sp - 1) + 1 by omega, nI_pred] at z
        have := (nI_eq (by omega) (by omega)).mp z
        omega
      · intro z
        exact z_enE z (by omega) h1
    rw [decide_eq_decide]
    rw [e1, e2]
  · have q1 : keepS (nI st) (nI f, nI 1, nI wh, nI sp, nI mu) = true := by
      unfold keepS
      rw [Bool.not_eq_true', decide_eq_false_iff_not]
      rintro ⟨⟨z, -⟩, -⟩
      exact z_n10 z
    rw [q1, Bool.true_and]
    unfold keepC keepT
    congr 1
    have e1 : endC (nI st) (nI f, nI 1, nI wh, nI sp, nI mu) ↔ f = st := by
      show (if nI 1 = nI 0 then ¬ nI st < nI f + nI sp - 1 else ¬ nI st < nI f) ↔ _
      rw [if_neg (by decide), nI_ltI (by omega) (by omega)]
      omega
    have e2 : isTe (nI st) (nI f, nI 1, nI wh, nI sp, nI mu) ↔ f = st := by
      show (nI 1 = 1 ∧ nI f = nI st) ↔ _
      rw [nI_eq (by omega) (by omega)]
      exact ⟨fun z => z.2, fun z => ⟨by decide, z⟩⟩
    rw [decide_eq_decide]
    rw [e1, e2]
set_option maxRecDepth 100000 in
set_option maxHeartbeats 4000000 in
theorem c_X3_goOn (G : zG) {n : Nat} {T : zTT} {I : zII} {R : zRR} (a st : Nat) (g : Nat → Int32) (hS : z_Hs T R I a st g) (hst : st < 90000) : Ct G yX3_goOn wsX3_goOn (4, 0, 0) [.ref a] n T I R (z_rel none n T (fun I' R' => z_Hs T R' I' a (st + 1) (mStep g) ∧ z_fa a I I' ∧ ∀ q, q ≠ a + 4 → R' q = R q)) := by
  refine Ct.ofX (M := muX3_goOn) (ls := [(0, .ref a)]) (by decide +kernel) rfl (by decide) rfl rfl (Nat.le_of_ble_eq_true rfl) ?_
  obtain ⟨hH, nr, nd, np, F, hI, hG, hP, hF⟩ := hS
  have hTa := hH.1
  obtain ⟨hTar, hRar⟩ := hH.2.1
  have hRp := hH.2.2.2.1
  have hnr := hI.1.2
  have hnd := hI.2.1.2
  obtain ⟨np2, np4, ⟨i1, e1, p1⟩, ⟨i2, e2, p2, s2⟩, ⟨i3, e3, p3⟩, ⟨i4, e4, p4, s4⟩, ⟨i5, e5⟩, ⟨i6, e6⟩, ⟨i7, e7⟩, ⟨i8, p8⟩⟩ := step_facts hI (by omega)
  have hE : ∀ k, k < np → EOK nr nd st (F k) := fun k hk => by rw [pl_ent hF hk]; exact hI.2.2.2.2.2.2.1 k hk
  have absorb : ∀ R2, z_House T R2 a → ∀ F2, (∀ q, q ≠ a + 4 → R2 q = R q) → pl F2 np4 = planL (mStep g) np4 → ∀ i, i ≤ nr → ∀ I2, z_HR I2 a (absN (mS4 g) i) (fun m => if m < nr then st + 1 else st) (fun _ => st) → z_P T I2 R2 (a + 3) np4 F2 → z_fa a I I2 → ∀ ls : List (Nat × Value), lv_pick ls [0, 1] = [(0, .ref a), (1, .int (nI i))] → z_X G muX3_goOn (4, 0, 0) (z_rel none n T (fun I' R' => z_Hs T R' I' a (st + 1) (mStep g) ∧ z_fa a I I' ∧ ∀ q, q ≠ a + 4 → R' q = R q)) n T I2 R2 0 0 63 ls [] := by
    intro R2 hH2 F2 hR2 hF2
    obtain ⟨hTar2, hRar2⟩ := hH2.2.1
    refine z_up (N := nr) _ ?_ ?_
    · intro I2 hG2 hP2 f2 ls hls
      rw [← e5] at hG2
      have c0 : I2 a 4 = nI nr := by rw [(HR_sc hG2).1]; exact i5.1.1
      refine z_pick [0, 1] hls ?_
      refine z_iload_n (q := 64) dX3_goOn_63 rfl rfl rfl ?_
      refine z_aload_n (q := 65) dX3_goOn_64 rfl rfl rfl ?_
      refine z_getV (q := 68) 3 4 1 158 rfl (by decide) rfl rfl rfl (by with_reducible assumption) (c0) dX3_goOn_65 rfl ?_
      refine z_icmpn_ge (rfl) (rfl) (by omega) (by omega) (tgt := 95) (q := 71) dX3_goOn_68 (by decide) rfl (fun _ => ?_) (fun hc => absurd hc (by omega))
      refine z_aload_n (q := 96) dX3_goOn_95 rfl rfl rfl ?_
      refine z_invV (q := 99) (c_X3_sendThroughDoors G a nr nd np4 np4 st F2 (mS5 g) _ hH2 hG2 hP2 i5 hst) (by with_reducible assumption) rfl gX3_goOn_X3_sendThroughDoors rfl hy_X3_sendThroughDoors rfl rfl rfl rfl (Nat.le_of_ble_eq_true rfl) ⟨Nat.zero_le _, Nat.zero_le _⟩ dX3_goOn_96 rfl (z_rnR fun I4 R4 hZ4 => ?_)
      obtain ⟨rfl, hG4, hP4, f4⟩ := hZ4
      rw [← e6] at hG4
      refine z_aload_n (q := 100) dX3_goOn_99 rfl rfl rfl ?_
      refine z_invV (q := 103) (c_X3_letArrive G a nr nd np4 np4 st F2 (mS6 g) _ hH2 hG4 hP4 i6 hst) (by with_reducible assumption) rfl gX3_goOn_X3_letArrive rfl hy_X3_letArrive rfl rfl rfl rfl (Nat.le_of_ble_eq_true rfl) ⟨Nat.zero_le _, Nat.zero_le _⟩ dX3_goOn_100 rfl (z_rnR fun I5 R5 hZ5 => ?_)
      obtain ⟨rfl, hG5, hP5, f5⟩ := hZ5
      rw [← e7] at hG5
      have c3 : I5 a 6 = nI st := by rw [(HR_sc hG5).2.2.1]; exact i7.2.2.2.1
      refine z_aload_n (q := 104) dX3_goOn_103 rfl rfl rfl ?_
      refine z_dup (q := 105) dX3_goOn_104 rfl rfl ?_
      refine z_getV (q := 108) 3 6 3 160 rfl (by decide) rfl rfl rfl (by with_reducible assumption) (c3) dX3_goOn_105 rfl ?_
      refine z_iconst (q := 109) (v := nI 1) dX3_goOn_108 (by rfl) rfl ?_
      refine z_iaddE (q := 110) dX3_goOn_109 (nI_add _ _) rfl ?_
      refine z_put (q := 113) 3 6 3 160 rfl (by decide) rfl rfl (tyX3_ok 6 (by decide)) (rfl) (rfl) rfl (by with_reducible assumption) dX3_goOn_110 rfl ?_
      refine z_vret rfl dX3_goOn_113 (Nat.zero_le _) (Nat.zero_le _) ⟨rfl, rfl, rfl, ⟨hH2, nr, nd, np4, F2, i8, ?_, z_P_f hP5 (fun q _ _ => zw_row _ _ (by omega)) (fun _ _ _ => rfl), hF2⟩, fa_w (fa_t (fa_t f2 f4) f5) (by omega), hR2⟩
      have hw := HRw_3 hG5 (nI (st + 1))
      have hm : upd (mS7 g) 3 (nI (st + 1)) = mStep g := by rw [mStep, i7.2.2.2.1, nI_1]
      rw [hm] at hw
      refine HR_sox hw (fun i hi => ?_) (fun d s hd hs => ?_)
      · by_cases h : i < nr
        · exact Or.inl (if_pos h)
        · exact Or.inr (fun k hk => ((i8.2.2.2.2.1 i hi).2 (by omega)).2 k hk)
      · by_cases h : d < nd
        · exact Or.inl (if_pos (by omega))
        · refine Or.inr (fun k hk => ?_)
          rw [Nat.add_assoc (177 + 12 * d)]
          exact ((i8.2.2.2.2.2.1 d hd).2 (by omega)).2 (6 * s + k) (by omega)
    · intro i hi ih I2 hG2 hP2 f2 ls hls
      have hIi : INV nr nd np4 st (absN (mS4 g) i) := INV_free i4 (absN_fre (Nat.le_of_lt hi))
      have hs : absN (mS4 g) (i + 1) = absR (absN (mS4 g) i) i := rfl
      rw [hs] at ih
      generalize absN (mS4 g) i = h at hG2 hIi ih
      have c0 : I2 a 4 = nI nr := by rw [(HR_sc hG2).1]; exact hIi.1.1
      have hRri := (hH2.2.2.2.2.2.1 i (by omega)).1
      have hRi := (hH2.2.2.2.2.2.1 i (by omega)).2
      have hTi := hRi.1
      refine z_pick [0, 1] hls ?_
      refine z_iload_n (q := 64) dX3_goOn_63 rfl rfl rfl ?_
      refine z_aload_n (q := 65) dX3_goOn_64 rfl rfl rfl ?_
      refine z_getV (q := 68) 3 4 1 158 rfl (by decide) rfl rfl rfl (by with_reducible assumption) (c0) dX3_goOn_65 rfl ?_
      refine z_icmpn_ge (rfl) (rfl) (by omega) (by omega) (tgt := 95) (q := 71) dX3_goOn_68 (by decide) rfl (fun hc => absurd hc (by omega)) (fun _ => ?_)
      refine z_iload_n (q := 72) dX3_goOn_71 rfl rfl rfl ?_
      refine z_aload_n (q := 73) dX3_goOn_72 rfl rfl rfl ?_
      refine z_getR (q := 76) 3 0 2 154 rfl (by decide) rfl rfl rfl (by with_reducible assumption) (by with_reducible assumption) dX3_goOn_73 rfl ?_
      refine z_alen (q := 77) (by with_reducible assumption) dX3_goOn_76 rfl ?_
      refine z_icmpn_ge (rfl) (rfl) (by omega) (by omega) (tgt := 95) (q := 80) dX3_goOn_77 (by decide) rfl (fun hc => absurd hc (by omega)) (fun _ => ?_)
      refine z_aload_n (q := 81) dX3_goOn_80 rfl rfl rfl ?_
      refine z_getR (q := 84) 3 0 2 154 rfl (by decide) rfl rfl rfl (by with_reducible assumption) (by with_reducible assumption) dX3_goOn_81 rfl ?_
      refine z_iload_n (q := 85) dX3_goOn_84 rfl rfl rfl ?_
      refine z_aald (q := 86) _ (by with_reducible assumption) (rfl) (by omega) (by decide) (by with_reducible assumption) dX3_goOn_85 rfl ?_
      refine z_invV (q := 89) (c_X5_absorbShare G (a + 22 + 2 * i) hRi) (by with_reducible assumption) rfl gX3_goOn_X5_absorbShare rfl hy_X5_absorbShare rfl rfl rfl rfl (Nat.le_of_ble_eq_true rfl) ⟨Nat.zero_le _, Nat.zero_le _⟩ dX3_goOn_86 rfl (z_rn ?_)
      refine z_iinc (q := 92) dX3_goOn_89 rfl (nI_add _ 1) (by decide) rfl ?_
      refine z_goto (q := 63) dX3_goOn_92 (by decide) ?_
      rw [HR_room hG2 (by omega) (by decide), HR_room hG2 (by omega) (by decide), HR_room hG2 (by omega) (by decide)]
      exact ih _ (HRw_room (HRw_room hG2 _ (by omega) (by decide)) _ (by omega) (by decide)) (z_P_f hP2 (fun q _ _ => by rw [zw_row _ _ (by omega), zw_row _ _ (by omega)]) (fun _ _ _ => rfl)) (fa_w (fa_w f2 (by omega)) (by omega)) _ rfl
  have keep : ∀ i, i ≤ nr → ∀ I2, z_HR I2 a (oldN g i) (fun m => if m < i then st + 1 else st) (fun _ => st) → z_P T I2 R (a + 3) np F → z_fa a I I2 → ∀ ls : List (Nat × Value), lv_pick ls [0, 1] = [(0, .ref a), (1, .int (nI i))] → z_X G muX3_goOn (4, 0, 0) (z_rel none n T (fun I' R' => z_Hs T R' I' a (st + 1) (mStep g) ∧ z_fa a I I' ∧ ∀ q, q ≠ a + 4 → R' q = R q)) n T I2 R 0 0 2 ls [] := by
    refine z_up (N := nr) _ ?_ ?_
    · intro I2 hG2 hP2 f2 ls hls
      rw [← e1] at hG2
      have c0 : I2 a 4 = nI nr := by rw [(HR_sc hG2).1]; exact i1.1.1
      refine z_pick [0, 1] hls ?_
      refine z_iload_n (q := 3) dX3_goOn_2 rfl rfl rfl ?_
      refine z_aload_n (q := 4) dX3_goOn_3 rfl rfl rfl ?_
      refine z_getV (q := 7) 3 4 1 158 rfl (by decide) rfl rfl rfl (by with_reducible assumption) (c0) dX3_goOn_4 rfl ?_
      refine z_icmpn_ge (rfl) (rfl) (by omega) (by omega) (tgt := 38) (q := 10) dX3_goOn_7 (by decide) rfl (fun _ => ?_) (fun hc => absurd hc (by omega))
      have hlk : ∀ d, d < nd → mS1 g (57 + 10 * d + 7) = 0 ∨ mS1 g (57 + 10 * d + 7) = 1 := fun d hd => by
        obtain ⟨sa, sb, ar, sp, de, o, t, l, -, -, -, -, -, -, -, -, g8⟩ := (i1.2.2.2.2.2.1 d (by omega)).1 hd
        rcases (show l = 0 ∨ l = 1 by omega) with rfl | rfl
        · exact Or.inl (g8.1.trans nI_0)
        · exact Or.inr (g8.1.trans zI1)
      refine z_aload_n (q := 39) dX3_goOn_38 rfl rfl rfl ?_
      refine z_invV (q := 42) (c_X3_aimPlannedDoors G a nr nd np st F (mS1 g) _ _ hH hG2 hP2 i1.2.1.1 hnd i1.2.2.2.1 hE hlk) (by with_reducible assumption) rfl gX3_goOn_X3_aimPlannedDoors rfl hy_X3_aimPlannedDoors rfl rfl rfl rfl (Nat.le_of_ble_eq_true rfl) ⟨Nat.zero_le _, Nat.zero_le _⟩ dX3_goOn_39 rfl (z_rnR fun I3 R3 hZ3 => ?_)
      obtain ⟨rfl, hG3, hP3, f3⟩ := hZ3
      have hG3 : z_HR I3 a (mS2 g) (fun m => if m < nr then st + 1 else st) (fun _ => st) := HR_g hG3 (fun c h2 h1 => by rw [s2 c h1, ← hF])
      refine z_aload_n (q := 43) dX3_goOn_42 rfl rfl rfl ?_
      refine z_invV (q := 46) (c_X3_moveDoors G a nr nd np np2 st F (mS2 g) _ _ hH hG3 hP3 i2 (hear_hr (by omega) hE i2.2.2.2.1 (by rw [p2, hF]))) (by with_reducible assumption) rfl gX3_goOn_X3_moveDoors rfl hy_X3_moveDoors rfl rfl rfl rfl (Nat.le_of_ble_eq_true rfl) ⟨Nat.zero_le _, Nat.zero_le _⟩ dX3_goOn_43 rfl (z_rnR fun I4 R4 hZ4 => ?_)
      obtain ⟨rfl, hG4, hP4, f4⟩ := hZ4
      rw [← e3] at hG4
      refine z_aload_n (q := 47) dX3_goOn_46 rfl rfl rfl ?_
      refine z_invV (q := 50) (c_X3_giveSounds G a nr nd np st F (mS3 g) _ _ hH hG4 hP4 i3.1.1 hnr i3.2.2.2.1 (by omega) hE) (by with_reducible assumption) rfl gX3_goOn_X3_giveSounds rfl hy_X3_giveSounds rfl rfl rfl rfl (Nat.le_of_ble_eq_true rfl) ⟨Nat.zero_le _, Nat.zero_le _⟩ dX3_goOn_47 rfl (z_rnR fun I5 R5 hZ5 => ?_)
      obtain ⟨rfl, hG5, hP5, f5⟩ := hZ5
      have hG5 : z_HR I5 a (mS4 g) (fun m => if m < nr then st + 1 else st) (fun _ => st) := HR_g hG5 (fun c h2 h1 => by
        rw [s4 c h1, p3, p2, ← hF, ← give_filter _ _ _ _ (fun e _ z y => keepT_he z y.1)])
      have c3 : I5 a 6 = nI st := by rw [(HR_sc hG5).2.2.1]; exact i4.2.2.2.1
      have hTp := hP5.1.1
      refine z_aload_n (q := 51) dX3_goOn_50 rfl rfl rfl ?_
      refine z_getR (q := 54) 3 2 4 156 rfl (by decide) rfl rfl rfl (by with_reducible assumption) (by with_reducible assumption) dX3_goOn_51 rfl ?_
      refine z_aload_n (q := 55) dX3_goOn_54 rfl rfl rfl ?_
      refine z_getV (q := 58) 3 6 3 160 rfl (by decide) rfl rfl rfl (by with_reducible assumption) (c3) dX3_goOn_55 rfl ?_
      refine z_invV (q := 61) (c_X4_dropEnded G (a + 3) np (nI st) F hP5) (by with_reducible assumption) rfl gX3_goOn_X4_dropEnded rfl hy_X4_dropEnded rfl rfl rfl rfl (Nat.le_of_ble_eq_true rfl) ⟨Nat.zero_le _, Nat.zero_le _⟩ dX3_goOn_58 rfl (z_rnR fun I6 R6 hZ6 => ?_)
      obtain ⟨⟨np', F2, hP6, hF6⟩, f6, r6⟩ := hZ6
      have hp4 : planL (mS4 g) np4 = pl F2 np' := by
        rw [p4, p3, p2, hF6, ← hF, List.filter_filter]
        refine List.filter_congr (fun e he => ?_)
        obtain ⟨k, hk, rfl⟩ := pl_mem he
        exact (keepC_e (hE k hk) (by omega)).symm
      have hnp : np' = np4 := by
        have := congrArg List.length hp4
        rw [planL_len, pl_len] at this
        exact this.symm
      subst hnp
      refine z_iconst (q := 62) (v := nI 0) dX3_goOn_61 (by rfl) rfl ?_
      refine z_istore_n (q := 63) dX3_goOn_62 rfl (by decide) rfl ?_
      refine absorb R6 (z_House_R hH (fun q h1 h2 h3 => r6 q (by omega))) F2 (fun q hq => r6 q (by omega)) (by rw [p8]; exact hp4.symm) 0 (Nat.zero_le _) I6 (HR_f hG5 (fun q h1 h2 h3 => f6 q (by omega))) hP6 (fa_t (fa_t (fa_t (fa_t f2 f3) f4) f5) (fun q hq => f6 q (by omega))) _ rfl
    · intro i hi ih I2 hG2 hP2 f2 ls hls
      have hIi : INV nr nd np st (oldN g i) := INV_free hI (oldN_fre i (Nat.le_of_lt hi))
      have hs : oldN g (i + 1) = oldR (oldN g i) i := rfl
      rw [hs] at ih
      generalize oldN g i = h at hG2 hIi ih
      have c0 : I2 a 4 = nI nr := by rw [(HR_sc hG2).1]; exact hIi.1.1
      have c3 : I2 a 6 = nI st := by rw [(HR_sc hG2).2.2.1]; exact hIi.2.2.2.1
      have hRri := (hH.2.2.2.2.2.1 i (by omega)).1
      have hRi := (hH.2.2.2.2.2.1 i (by omega)).2
      have hTi := hRi.1
      refine z_pick [0, 1] hls ?_
      refine z_iload_n (q := 3) dX3_goOn_2 rfl rfl rfl ?_
      refine z_aload_n (q := 4) dX3_goOn_3 rfl rfl rfl ?_
      refine z_getV (q := 7) 3 4 1 158 rfl (by decide) rfl rfl rfl (by with_reducible assumption) (c0) dX3_goOn_4 rfl ?_
      refine z_icmpn_ge (rfl) (rfl) (by omega) (by omega) (tgt := 38) (q := 10) dX3_goOn_7 (by decide) rfl (fun hc => absurd hc (by omega)) (fun _ => ?_)
      refine z_iload_n (q := 11) dX3_goOn_10 rfl rfl rfl ?_
      refine z_aload_n (q := 12) dX3_goOn_11 rfl rfl rfl ?_
      refine z_getR (q := 15) 3 0 2 154 rfl (by decide) rfl rfl rfl (by with_reducible assumption) (by with_reducible assumption) dX3_goOn_12 rfl ?_
      refine z_alen (q := 16) (by with_reducible assumption) dX3_goOn_15 rfl ?_
      refine z_icmpn_ge (rfl) (rfl) (by omega) (by omega) (tgt := 38) (q := 19) dX3_goOn_16 (by decide) rfl (fun hc => absurd hc (by omega)) (fun _ => ?_)
      refine z_aload_n (q := 20) dX3_goOn_19 rfl rfl rfl ?_
      refine z_getR (q := 23) 3 0 2 154 rfl (by decide) rfl rfl rfl (by with_reducible assumption) (by with_reducible assumption) dX3_goOn_20 rfl ?_
      refine z_iload_n (q := 24) dX3_goOn_23 rfl rfl rfl ?_
      refine z_aald (q := 25) _ (by with_reducible assumption) (rfl) (by omega) (by decide) (by with_reducible assumption) dX3_goOn_24 rfl ?_
      refine z_aload_n (q := 26) dX3_goOn_25 rfl rfl rfl ?_
      refine z_getV (q := 29) 3 6 3 160 rfl (by decide) rfl rfl rfl (by with_reducible assumption) (c3) dX3_goOn_26 rfl ?_
      refine z_invV (q := 32) (c_X5_keepEnergy G (a + 22 + 2 * i) st hRi (by omega)) (by with_reducible assumption) rfl gX3_goOn_X5_keepEnergy rfl hy_X5_keepEnergy rfl rfl rfl rfl (Nat.le_of_ble_eq_true rfl) ⟨Nat.zero_le _, Nat.zero_le _⟩ dX3_goOn_29 rfl (z_rn ?_)
      refine z_iinc (q := 35) dX3_goOn_32 rfl (nI_add _ 1) (by decide) rfl ?_
      refine z_goto (q := 2) dX3_goOn_35 (by decide) ?_
      refine ih _ (HR_keep hG2 (by omega) (if_neg (Nat.lt_irrefl i)) (if_pos (Nat.lt_succ_self i)) (fun m hm => ?_)) (z_P_f hP2 (fun q _ _ => zw_row _ _ (by omega)) (fun _ _ _ => rfl)) (fa_w f2 (by omega)) _ rfl
      by_cases h1 : m < i
      · rw [if_pos h1, if_pos (by omega)]
      · rw [if_neg h1, if_neg (by omega)]
  refine z_iconst (q := 1) (v := nI 0) dX3_goOn_0 (by rfl) rfl ?_
  refine z_istore_n (q := 2) dX3_goOn_1 rfl (by decide) rfl ?_
  refine keep 0 (Nat.zero_le _) I ?_ hP (fun _ _ => rfl) _ rfl
  have e : (fun m => if m < 0 then st + 1 else st) = fun _ : Nat => st := by
    funext m
    rw [if_neg (by omega)]
  rw [e]
  exact hG


