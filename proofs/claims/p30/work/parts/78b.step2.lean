/-! THE LAW's step: sounds given and entries that end; what rooms absorb -/
theorem pl_none {F : Nat → zE} {np k : Nat} (hk : np ≤ k) : (pl F np)[k]? = none := by
  simp [pl, hk]
theorem entR_end (P : Nat → Int32) {i np k : Nat} (hk : k < np - 1) : entR (endR P i np) k = if k < i then entR P k else entR P (k + 1) := by
  have e : ∀ w, w < 5 → endR P i np (5 * k + w) = if k < i then P (5 * k + w) else P (5 * (k + 1) + w) := by
    intro w hw
    unfold endR
    by_cases h : k < i
    · rw [if_pos h, if_neg (by omega)]
    · rw [if_neg h, if_pos (by omega), show 5 * k + w + 5 = 5 * (k + 1) + w by omega]
  have e0 := e 0 (by decide)
  have e1 := e 1 (by decide)
  have e2 := e 2 (by decide)
  have e3 := e 3 (by decide)
  have e4 := e 4 (by decide)
  by_cases h : k < i
  · rw [if_pos h] at e0 e1 e2 e3 e4 ⊢
    exact Prod.ext e0 (Prod.ext e1 (Prod.ext e2 (Prod.ext e3 e4)))
  · rw [if_neg h] at e0 e1 e2 e3 e4 ⊢
    exact Prod.ext e0 (Prod.ext e1 (Prod.ext e2 (Prod.ext e3 e4)))
theorem ends_pl (P : Nat → Int32) {i np : Nat} (hi : i < np) : pl (entR (endR P i np)) (np - 1) = (pl (entR P) np).eraseIdx i := by
  refine List.ext_getElem? (fun k => ?_)
  rw [List.getElem?_eraseIdx]
  by_cases hk : k < np - 1
  · rw [pl_at hk, entR_end P hk]
    by_cases h : k < i
    · rw [if_pos h, if_pos h, pl_at (by omega)]
    · rw [if_neg h, if_neg h, pl_at (by omega)]
  · rw [pl_none (by omega), if_neg (by omega), pl_none (by omega)]
theorem LP_ends {I I' : zII} {b np i : Nat} {s : Nat → Int32} {M : List zE} (hL : LWP I b np s M) (hi : i < np) (h1 : I' b = upd (I b) 2 (nI (np - 1))) (h2 : I' (b + 4) = endR (I (b + 4)) i np) (hf : ∀ q, q ≠ b → q ≠ b + 4 → I' q = I q) : LWP I' b (np - 1) s (M.eraseIdx i) := by
  unfold LWP
  rw [h1, h2, hf (b + 1) (by omega) (by omega), hf (b + 2) (by omega) (by omega), hf (b + 3) (by omega) (by omega)]
  refine ⟨fun c hc hc2 => by rw [upd_n _ _ hc2]; exact hL.1 c hc hc2, upd_s _ _ _, hL.2.2.1, hL.2.2.2.1, hL.2.2.2.2.1, ?_⟩
  rw [ends_pl _ hi, hL.2.2.2.2.2]
theorem giveE_0 {st f wh sp mu : Nat} (h : Nat → Int32) (hf : f ≤ 5000) (hs : sp ≤ 20) (h1 : 1 ≤ sp) (hst : st < f + sp) (hw : wh < 8) : giveE (nI st) h (nI f, nI 0, nI wh, nI sp, nI mu) = if f ≤ st then upd (upd h (9 + 6 * wh + 2) (h (9 + 6 * wh + 2) + nI mu)) (9 + 6 * wh + 4) (h (9 + 6 * wh + 4) + nI mu) else h := by
  have hc : (nI wh).toNatClampNeg = wh := nI_clamp (by omega)
  have hlast : nI f + nI sp - 1 = nI (f + sp - 1) := by
    rw [nI_add, show f + sp = f + sp - 1 + 1 by omega, nI_pred]
    rfl
  unfold giveE
  by_cases z : f ≤ st
  · have hh : heE (nI st) (nI f, nI 0, nI wh, nI sp, nI mu) := ⟨nI_0, nI_nlt z (by omega), by
      show ¬ nI f + nI sp - 1 < nI st
      rw [hlast]; exact nI_nlt (by omega) (by omega)⟩
    rw [if_pos hh, if_pos z]
    show upd (upd h (9 + 6 * (nI wh).toNatClampNeg + 2) (h (9 + 6 * (nI wh).toNatClampNeg + 2) + nI mu)) (9 + 6 * (nI wh).toNatClampNeg + 4) (h (9 + 6 * (nI wh).toNatClampNeg + 4) + nI mu) = _
    rw [hc]
  · rw [if_neg (fun y => y.2.1 (nI_lt (by omega) (by omega))), if_neg z]
theorem giveE_1 {st f wh sp mu : Nat} (h : Nat → Int32) : giveE (nI st) h (nI f, nI 1, nI wh, nI sp, nI mu) = h := by
  unfold giveE
  rw [if_neg (fun y => nI10 (y.1.trans nI_0.symm))]
theorem keepC_0 {st f wh sp mu : Nat} (hf : f ≤ 5000) (hs : sp ≤ 20) (h1 : 1 ≤ sp) (hst : st < f + sp) : keepC (nI st) (nI f, nI 0, nI wh, nI sp, nI mu) = true ↔ f + sp - 1 ≠ st := by
  have hlast : nI f + nI sp - 1 = nI (f + sp - 1) := by
    rw [nI_add, show f + sp = f + sp - 1 + 1 by omega, nI_pred]
    rfl
  have he : endC (nI st) (nI f, nI 0, nI wh, nI sp, nI mu) ↔ ¬ nI st < nI (f + sp - 1) := by
    rw [← hlast]
    unfold endC
    rw [if_pos rfl]
  unfold keepC
  rw [Bool.not_eq_true', decide_eq_false_iff_not, he, Decidable.not_not, nI_ltI (by omega) (by omega)]
  omega
theorem keepC_1 {st f wh sp mu : Nat} (hf : f ≤ 5000) (hst : st ≤ f) : keepC (nI st) (nI f, nI 1, nI wh, nI sp, nI mu) = true ↔ f ≠ st := by
  have he : endC (nI st) (nI f, nI 1, nI wh, nI sp, nI mu) ↔ ¬ nI st < nI f := by
    unfold endC
    rw [if_neg nI10]
  unfold keepC
  rw [Bool.not_eq_true', decide_eq_false_iff_not, he, Decidable.not_not, nI_ltI (by omega) (by omega)]
  omega
set_option maxRecDepth 100000 in
set_option maxHeartbeats 4000000 in
theorem step_give {G : zG} {Q : zQ} {n : Nat} {T : zTT} {I : zII} {R : zRR} (b nr nd np st : Nat) (g s : Nat → Int32) (hT : LT T b) (hL : LWP I b np s (planL g np)) (hE : ∀ k, k < np → EOK nr nd st (ent g k)) (h3 : s 3 = nI st) (h4 : nr ≤ 4) (h4' : nd ≤ 4) (h8 : np ≤ 8) (hst : st < 90000) (kk : ∀ I' : zII, LWP I' b ((planL g np).filter (keepC (nI st))).length (giveL (nI st) s (planL g np)) ((planL g np).filter (keepC (nI st))) → (∀ q, q ≠ b → q ≠ b + 1 → q ≠ b + 4 → I' q = I q) → ∀ ls : List (Nat × Value), lv_pick ls [0, 1, 2, 3, 4, 5] = [(0, .ref b), (1, .ref (b + 1)), (2, .ref (b + 2)), (3, .ref (b + 3)), (4, .ref (b + 4)), (5, .ref (b + 5))] → z_X G muL_step (1, 1, 8) Q n T I' R 0 0 487 ls []) : ∀ ls : List (Nat × Value), lv_pick ls [0, 1, 2, 3, 4, 5] = [(0, .ref b), (1, .ref (b + 1)), (2, .ref (b + 2)), (3, .ref (b + 3)), (4, .ref (b + 4)), (5, .ref (b + 5))] → z_X G muL_step (1, 1, 8) Q n T I R 0 0 318 ls [] := by
  have hTg := hT.1
  have hTr := hT.2.1
  have hTp := hT.2.2.2.2.1
  have hLl := planL_len g np
  have hg := planL_get g np
  generalize planL g np = L at hL kk hLl hg
  have loop : ∀ m, m ≤ np → ∀ I2 : zII, LWP I2 b (L.take m ++ (L.drop m).filter (keepC (nI st))).length (giveL (nI st) s (L.drop m).reverse) (L.take m ++ (L.drop m).filter (keepC (nI st))) → (∀ q, q ≠ b → q ≠ b + 1 → q ≠ b + 4 → I2 q = I q) → I2 b 3 = nI st → ∀ ls : List (Nat × Value), lv_pick ls [0, 1, 2, 3, 4, 5, 6] = [(0, .ref b), (1, .ref (b + 1)), (2, .ref (b + 2)), (3, .ref (b + 3)), (4, .ref (b + 4)), (5, .ref (b + 5)), (6, .int (nI m - 1))] → z_X G muL_step (1, 1, 8) Q n T I2 R 0 0 325 ls [] := by
    intro m
    induction m with
    | zero =>
      intro _ I2 hL2 hf g3 ls hls
      refine z_pick [0, 1, 2, 3, 4, 5, 6] hls ?_
      refine z_iload (q := 327) (i := 6) dL_step_325 rfl rfl ?_
      refine z_if_lt (tgt := 487) (q := 330) dL_step_327 (by decide) rfl (fun _ => ?_) (fun hc => False.elim (hc (by decide)))
      refine kk I2 ?_ hf _ rfl
      rw [List.take_zero, List.nil_append, List.drop_zero] at hL2
      exact LP_s hL2 (fun c _ _ => (giveL_rev _ _ _ c).symm)
    | succ m ih =>
      intro hm I2 hL2 hf g3 ls hls
      rw [nI_pred] at hls
      have hLm : L[m]? = some (ent g m) := by rw [hg, if_pos (by omega)]
      have hdrop := drop_at L m (ent g m) hLm
      have htake : L.take (m + 1) = L.take m ++ [ent g m] := by rw [List.take_add_one, hLm]; rfl
      have hA : (L.take m).length = m := by rw [List.length_take, hLl]; omega
      have hX : ((L.drop (m + 1)).filter (keepC (nI st))).length ≤ np - (m + 1) := by
        have h1 := List.length_filter_le (keepC (nI st)) (L.drop (m + 1))
        rw [List.length_drop, hLl] at h1
        exact h1
      have hrev : (L.drop m).reverse = (L.drop (m + 1)).reverse ++ [ent g m] := by rw [hdrop, List.reverse_cons]
      have hfil : (L.drop m).filter (keepC (nI st)) = if keepC (nI st) (ent g m) = true then ent g m :: (L.drop (m + 1)).filter (keepC (nI st)) else (L.drop (m + 1)).filter (keepC (nI st)) := by rw [hdrop, List.filter_cons]
      rw [hrev, giveL_app, hfil] at ih
      rw [htake, List.append_assoc, List.singleton_append] at hL2
      generalize L.take m = A at hL2 hA ih
      generalize (L.drop (m + 1)).filter (keepC (nI st)) = X at hL2 hX ih
      generalize giveL (nI st) s (L.drop (m + 1)).reverse = s2 at hL2 ih
      have hlen : (A ++ ent g m :: X).length = m + 1 + X.length := by rw [List.length_append, List.length_cons, hA]; omega
      have hMm : (A ++ ent g m :: X)[m]? = some (ent g m) := by
        rw [List.getElem?_append_right (by omega), hA, Nat.sub_self]
        rfl
      obtain ⟨f, kd, wh, sp, mu, he, hf5, hc⟩ := hE m (by omega)
      have hent : entR (I2 (b + 4)) m = ent g m := by
        have h1 := LW_e hL2 (k := m) (by omega)
        rw [hMm] at h1
        exact (Option.some.inj h1).symm
      rw [he] at hent
      have p0 : I2 (b + 4) (5 * m) = nI f := congrArg (fun z : zE => z.1) hent
      have p1 : I2 (b + 4) (5 * m + 1) = nI kd := congrArg (fun z : zE => z.2.1) hent
      have p2 : I2 (b + 4) (5 * m + 2) = nI wh := congrArg (fun z : zE => z.2.2.1) hent
      have p3 : I2 (b + 4) (5 * m + 3) = nI sp := congrArg (fun z : zE => z.2.2.2.1) hent
      have p4 : I2 (b + 4) (5 * m + 4) = nI mu := congrArg (fun z : zE => z.2.2.2.2) hent
      have hdec := z_dec (nI m)
      have done : ∀ I3 : zII, LWP I3 b (A ++ if keepC (nI st) (ent g m) = true then ent g m :: X else X).length (giveE (nI st) s2 (ent g m)) (A ++ if keepC (nI st) (ent g m) = true then ent g m :: X else X) → (∀ q, q ≠ b → q ≠ b + 1 → q ≠ b + 4 → I3 q = I q) → I3 b 3 = nI st → ∀ ls : List (Nat × Value), lv_pick ls [0, 1, 2, 3, 4, 5, 6] = [(0, .ref b), (1, .ref (b + 1)), (2, .ref (b + 2)), (3, .ref (b + 3)), (4, .ref (b + 4)), (5, .ref (b + 5)), (6, .int (nI m))] → z_X G muL_step (1, 1, 8) Q n T I3 R 0 0 481 ls [] := by
        intro I3 hL3 hf3 g33 ls hls
        refine z_pick [0, 1, 2, 3, 4, 5, 6] hls ?_
        refine z_iinc (q := 484) dL_step_481 rfl (hdec) (by decide) rfl ?_
        refine z_goto (q := 325) dL_step_484 (by decide) ?_
        exact ih (by omega) I3 hL3 hf3 g33 _ rfl
      have cut : ∀ I3 : zII, ¬ keepC (nI st) (ent g m) = true → LWP I3 b (A ++ ent g m :: X).length (giveE (nI st) s2 (ent g m)) (A ++ ent g m :: X) → (∀ q, q ≠ b → q ≠ b + 1 → q ≠ b + 4 → I3 q = I q) → I3 b 3 = nI st → ∀ ls : List (Nat × Value), lv_pick ls [0, 1, 2, 3, 4, 5, 6] = [(0, .ref b), (1, .ref (b + 1)), (2, .ref (b + 2)), (3, .ref (b + 3)), (4, .ref (b + 4)), (5, .ref (b + 5)), (6, .int (nI m))] → z_X G muL_step (1, 1, 8) Q n T I3 R 0 0 473 ls [] := by
        intro I3 hk hL3 hf3 g33 ls hls
        refine z_pick [0, 1, 2, 3, 4, 5, 6] hls ?_
        refine z_aload_n (q := 474) dL_step_473 rfl rfl rfl ?_
        refine z_aload (q := 476) dL_step_474 rfl rfl ?_
        refine z_iload (q := 478) (i := 6) dL_step_476 rfl rfl ?_
        refine z_invS (q := 481) (c_L_ends G b (b + 4) _ m hTg hTp (by omega) hL3.2.1 (by omega) (by omega)) gL_step_L_ends rfl hy_L_ends rfl rfl rfl rfl (Nat.le_of_ble_eq_true rfl) ⟨Nat.zero_le _, Nat.zero_le _⟩ dL_step_478 rfl (z_rnR fun I4 R4 hZ => ?_)
        obtain ⟨rfl, z1, z2, z3⟩ := hZ
        refine done I4 ?_ (fun q h1 h2 h5 => by rw [z3 q h1 h5]; exact hf3 q h1 h2 h5) (by rw [z1, upd_n _ _ (by decide)]; exact g33) _ rfl
        rw [if_neg hk]
        have h5 := LP_ends hL3 (i := m) (by omega) z1 z2 z3
        have e1 : (A ++ ent g m :: X).eraseIdx m = A ++ X := by
          rw [List.eraseIdx_append_of_length_le (by omega), hA, Nat.sub_self]
          rfl
        have e2 : (A ++ ent g m :: X).length - 1 = (A ++ X).length := by rw [hlen, List.length_append, hA]; omega
        rw [e1, e2] at h5
        exact h5
      rcases hc with ⟨rfl, hw1, hs1, hs2, hs3, hm1⟩ | ⟨rfl, hw1, rfl, hs3, hm1⟩
      · have hg0 := giveE_0 (st := st) (wh := wh) (mu := mu) s2 hf5 hs2 hs1 hs3 (by omega)
        have hk0 := keepC_0 (wh := wh) (mu := mu) hf5 hs2 hs1 hs3
        rw [← he] at hg0 hk0
        have rem : ∀ I3 : zII, LWP I3 b (A ++ ent g m :: X).length (giveE (nI st) s2 (ent g m)) (A ++ ent g m :: X) → (∀ q, q ≠ b → q ≠ b + 1 → q ≠ b + 4 → I3 q = I q) → I3 b 3 = nI st → ∀ ls : List (Nat × Value), lv_pick ls [0, 1, 2, 3, 4, 5, 6, 7, 8] = [(0, .ref b), (1, .ref (b + 1)), (2, .ref (b + 2)), (3, .ref (b + 3)), (4, .ref (b + 4)), (5, .ref (b + 5)), (6, .int (nI m)), (7, .int (nI 1)), (8, .int (nI (f + sp - 1)))] → z_X G muL_step (1, 1, 8) Q n T I3 R 0 0 444 ls [] := by
          intro I3 hL3 hf3 g33 ls hls
          refine z_pick [0, 1, 2, 3, 4, 5, 6, 7, 8] hls ?_
          refine z_iload (q := 446) (i := 7) dL_step_444 rfl rfl ?_
          refine z_if_eq (tgt := 460) (q := 449) dL_step_446 (by decide) rfl (fun hc => False.elim (absurd hc (by decide))) (fun _ => ?_)
          refine z_iload (q := 451) (i := 8) dL_step_449 rfl rfl ?_
          refine z_aload_n (q := 452) dL_step_451 rfl rfl rfl ?_
          refine z_iconst (q := 453) (v := nI 3) dL_step_452 (by rfl) rfl ?_
          refine z_ialdV (q := 454) _ (by with_reducible assumption) (rfl) (by omega) (by decide) (g33) dL_step_453 rfl ?_
          refine z_icmpn_ne (rfl) (rfl) (by omega) (by omega) (tgt := 481) (q := 457) dL_step_454 (by decide) rfl (fun h454 => ?_) (fun h454 => ?_)
          · exact done I3 (by rw [if_pos (hk0.mpr h454)]; exact hL3) hf3 g33 _ rfl
          · refine z_goto (q := 473) dL_step_457 (by decide) ?_
            exact cut I3 (fun z => hk0.mp z h454) hL3 hf3 g33 _ rfl
        refine z_pick [0, 1, 2, 3, 4, 5, 6] hls ?_
        refine z_iload (q := 327) (i := 6) dL_step_325 rfl rfl ?_
        refine z_if_lt (tgt := 487) (q := 330) dL_step_327 (by decide) rfl (fun hc => False.elim (nI_pos (n := m) (by omega) hc)) (fun _ => ?_)
        refine z_aload (q := 332) dL_step_330 rfl rfl ?_
        refine z_iconst (q := 333) (v := nI 5) dL_step_332 (by rfl) rfl ?_
        refine z_iload (q := 335) (i := 6) dL_step_333 rfl rfl ?_
        refine z_imulE (q := 336) dL_step_335 (pk_mul _ _) rfl ?_
        refine z_iconst (q := 337) (v := nI 1) dL_step_336 (by rfl) rfl ?_
        refine z_iaddE (q := 338) dL_step_337 (nI_add _ _) rfl ?_
        refine z_ialdV (q := 339) _ (by with_reducible assumption) (rfl) (by omega) (by decide) (p1) dL_step_338 rfl ?_
        refine z_if_ne (tgt := 346) (q := 342) dL_step_339 (by decide) rfl (fun hc => False.elim (hc nI_0)) (fun _ => ?_)
        refine z_iconst (q := 343) (v := nI 1) dL_step_342 (by rfl) rfl ?_
        refine z_goto (q := 347) dL_step_343 (by decide) ?_
        refine z_istore (q := 349) dL_step_347 (by decide) rfl ?_
        refine z_aload (q := 351) dL_step_349 rfl rfl ?_
        refine z_iconst (q := 352) (v := nI 5) dL_step_351 (by rfl) rfl ?_
        refine z_iload (q := 354) (i := 6) dL_step_352 rfl rfl ?_
        refine z_imulE (q := 355) dL_step_354 (pk_mul _ _) rfl ?_
        refine z_ialdV (q := 356) _ (by with_reducible assumption) (rfl) (by omega) (by decide) (p0) dL_step_355 rfl ?_
        refine z_aload (q := 358) dL_step_356 rfl rfl ?_
        refine z_iconst (q := 359) (v := nI 5) dL_step_358 (by rfl) rfl ?_
        refine z_iload (q := 361) (i := 6) dL_step_359 rfl rfl ?_
        refine z_imulE (q := 362) dL_step_361 (pk_mul _ _) rfl ?_
        refine z_iconst (q := 363) (v := nI 3) dL_step_362 (by rfl) rfl ?_
        refine z_iaddE (q := 364) dL_step_363 (nI_add _ _) rfl ?_
        refine z_ialdV (q := 365) _ (by with_reducible assumption) (rfl) (by omega) (by decide) (p3) dL_step_364 rfl ?_
        refine z_iaddE (q := 366) dL_step_365 (nI_add _ _) rfl ?_
        refine z_iconst (q := 367) (v := nI 1) dL_step_366 (by rfl) rfl ?_
        refine z_isubE (q := 368) dL_step_367 (pk_sub (by omega)) rfl ?_
        refine z_istore (q := 370) dL_step_368 (by decide) rfl ?_
        refine z_iload (q := 372) (i := 7) dL_step_370 rfl rfl ?_
        refine z_if_eq (tgt := 444) (q := 375) dL_step_372 (by decide) rfl (fun hc => False.elim (absurd hc (by decide))) (fun _ => ?_)
        refine z_aload (q := 377) dL_step_375 rfl rfl ?_
        refine z_iconst (q := 378) (v := nI 5) dL_step_377 (by rfl) rfl ?_
        refine z_iload (q := 380) (i := 6) dL_step_378 rfl rfl ?_
        refine z_imulE (q := 381) dL_step_380 (pk_mul _ _) rfl ?_
        refine z_ialdV (q := 382) _ (by with_reducible assumption) (rfl) (by omega) (by decide) (p0) dL_step_381 rfl ?_
        refine z_aload_n (q := 383) dL_step_382 rfl rfl rfl ?_
        refine z_iconst (q := 384) (v := nI 3) dL_step_383 (by rfl) rfl ?_
        refine z_ialdV (q := 385) _ (by with_reducible assumption) (rfl) (by omega) (by decide) (g3) dL_step_384 rfl ?_
        refine z_icmpn_gt (rfl) (rfl) (by omega) (by omega) (tgt := 444) (q := 388) dL_step_385 (by decide) rfl (fun h385 => ?_) (fun h385 => ?_)
        · rw [if_neg (by omega)] at hg0
          exact rem I2 (by rw [hg0]; exact hL2) hf g3 _ rfl
        · rw [if_pos h385] at hg0
          refine z_aload_n (q := 389) dL_step_388 rfl rfl rfl ?_
          refine z_bipush (q := 391) (v := nI 6) dL_step_389 (by rfl) rfl ?_
          refine z_aload (q := 393) dL_step_391 rfl rfl ?_
          refine z_iconst (q := 394) (v := nI 5) dL_step_393 (by rfl) rfl ?_
          refine z_iload (q := 396) (i := 6) dL_step_394 rfl rfl ?_
          refine z_imulE (q := 397) dL_step_396 (pk_mul _ _) rfl ?_
          refine z_iconst (q := 398) (v := nI 2) dL_step_397 (by rfl) rfl ?_
          refine z_iaddE (q := 399) dL_step_398 (nI_add _ _) rfl ?_
          refine z_ialdV (q := 400) _ (by with_reducible assumption) (rfl) (by omega) (by decide) (p2) dL_step_399 rfl ?_
          refine z_imulE (q := 401) dL_step_400 (pk_mul _ _) rfl ?_
          refine z_iconst (q := 402) (v := nI 2) dL_step_401 (by rfl) rfl ?_
          refine z_iaddE (q := 403) dL_step_402 (nI_add _ _) rfl ?_
          refine z_dup2 (q := 404) dL_step_403 rfl rfl rfl ?_
          refine z_iald (q := 405) _ (by with_reducible assumption) (rfl) (by omega) (by decide) dL_step_404 rfl ?_
          refine z_aload (q := 407) dL_step_405 rfl rfl ?_
          refine z_iconst (q := 408) (v := nI 5) dL_step_407 (by rfl) rfl ?_
          refine z_iload (q := 410) (i := 6) dL_step_408 rfl rfl ?_
          refine z_imulE (q := 411) dL_step_410 (pk_mul _ _) rfl ?_
          refine z_iconst (q := 412) (v := nI 4) dL_step_411 (by rfl) rfl ?_
          refine z_iaddE (q := 413) dL_step_412 (nI_add _ _) rfl ?_
          refine z_ialdV (q := 414) _ (by with_reducible assumption) (rfl) (by omega) (by decide) (p4) dL_step_413 rfl ?_
          refine z_iadd (q := 415) dL_step_414 rfl ?_
          have hL3 := LP_r hL2 (c := 6 * wh + 2) (I2 (b + 1) (6 * wh + 2) + nI mu) (by omega)
          have hv3 : I2 (b + 1) (6 * wh + 2) = s2 (9 + 6 * wh + 2) := LW_r hL2 (by omega) (by decide)
          have hf3 : ∀ q, q ≠ b → q ≠ b + 1 → q ≠ b + 4 → zw I2 (b + 1) (6 * wh + 2) (I2 (b + 1) (6 * wh + 2) + nI mu) q = I q := fun q h1 h2 h5 => by rw [zw_row _ _ h2]; exact hf q h1 h2 h5
          refine z_iast (q := 416) _ (by with_reducible assumption) (rfl) (by omega) (by decide) dL_step_415 rfl ?_
          have p2' : zw I2 (b + 1) (6 * wh + 2) (I2 (b + 1) (6 * wh + 2) + nI mu) (b + 4) (5 * m + 2) = nI wh := by rw [zw_row _ _ (by omega)]; exact p2
          have p4' : zw I2 (b + 1) (6 * wh + 2) (I2 (b + 1) (6 * wh + 2) + nI mu) (b + 4) (5 * m + 4) = nI mu := by rw [zw_row _ _ (by omega)]; exact p4
          have g3' : zw I2 (b + 1) (6 * wh + 2) (I2 (b + 1) (6 * wh + 2) + nI mu) b 3 = nI st := by rw [zw_row _ _ (by omega)]; exact g3
          generalize zw I2 (b + 1) (6 * wh + 2) (I2 (b + 1) (6 * wh + 2) + nI mu) = I3 at hL3 hf3 p2' p4' g3'
          refine z_aload_n (q := 417) dL_step_416 rfl rfl rfl ?_
          refine z_bipush (q := 419) (v := nI 6) dL_step_417 (by rfl) rfl ?_
          refine z_aload (q := 421) dL_step_419 rfl rfl ?_
          refine z_iconst (q := 422) (v := nI 5) dL_step_421 (by rfl) rfl ?_
          refine z_iload (q := 424) (i := 6) dL_step_422 rfl rfl ?_
          refine z_imulE (q := 425) dL_step_424 (pk_mul _ _) rfl ?_
          refine z_iconst (q := 426) (v := nI 2) dL_step_425 (by rfl) rfl ?_
          refine z_iaddE (q := 427) dL_step_426 (nI_add _ _) rfl ?_
          refine z_ialdV (q := 428) _ (by with_reducible assumption) (rfl) (by omega) (by decide) (p2') dL_step_427 rfl ?_
          refine z_imulE (q := 429) dL_step_428 (pk_mul _ _) rfl ?_
          refine z_iconst (q := 430) (v := nI 4) dL_step_429 (by rfl) rfl ?_
          refine z_iaddE (q := 431) dL_step_430 (nI_add _ _) rfl ?_
          refine z_dup2 (q := 432) dL_step_431 rfl rfl rfl ?_
          refine z_iald (q := 433) _ (by with_reducible assumption) (rfl) (by omega) (by decide) dL_step_432 rfl ?_
          refine z_aload (q := 435) dL_step_433 rfl rfl ?_
          refine z_iconst (q := 436) (v := nI 5) dL_step_435 (by rfl) rfl ?_
          refine z_iload (q := 438) (i := 6) dL_step_436 rfl rfl ?_
          refine z_imulE (q := 439) dL_step_438 (pk_mul _ _) rfl ?_
          refine z_iconst (q := 440) (v := nI 4) dL_step_439 (by rfl) rfl ?_
          refine z_iaddE (q := 441) dL_step_440 (nI_add _ _) rfl ?_
          refine z_ialdV (q := 442) _ (by with_reducible assumption) (rfl) (by omega) (by decide) (p4') dL_step_441 rfl ?_
          refine z_iadd (q := 443) dL_step_442 rfl ?_
          refine z_iast (q := 444) _ (by with_reducible assumption) (rfl) (by omega) (by decide) dL_step_443 rfl ?_
          refine rem _ ?_ (fun q h1 h2 h5 => by rw [zw_row _ _ h2]; exact hf3 q h1 h2 h5) (by rw [zw_row _ _ (by omega)]; exact g3') _ rfl
          have hv4 : I3 (b + 1) (6 * wh + 4) = s2 (9 + 6 * wh + 4) := by rw [LW_r hL3 (by omega) (by decide), upd_n _ _ (by omega)]
          have hL4 := LP_r hL3 (c := 6 * wh + 4) (I3 (b + 1) (6 * wh + 4) + nI mu) (by omega)
          rw [hg0]
          rw [hv4, hv3, ← Nat.add_assoc, ← Nat.add_assoc] at hL4
          rw [hv4]
          exact hL4
      · have hg1 := giveE_1 (st := st) (f := f) (wh := wh) (sp := 0) (mu := mu) s2
        have hk1 := keepC_1 (st := st) (wh := wh) (sp := 0) (mu := mu) hf5 hs3
        rw [← he] at hg1 hk1
        refine z_pick [0, 1, 2, 3, 4, 5, 6] hls ?_
        refine z_iload (q := 327) (i := 6) dL_step_325 rfl rfl ?_
        refine z_if_lt (tgt := 487) (q := 330) dL_step_327 (by decide) rfl (fun hc => False.elim (nI_pos (n := m) (by omega) hc)) (fun _ => ?_)
        refine z_aload (q := 332) dL_step_330 rfl rfl ?_
        refine z_iconst (q := 333) (v := nI 5) dL_step_332 (by rfl) rfl ?_
        refine z_iload (q := 335) (i := 6) dL_step_333 rfl rfl ?_
        refine z_imulE (q := 336) dL_step_335 (pk_mul _ _) rfl ?_
        refine z_iconst (q := 337) (v := nI 1) dL_step_336 (by rfl) rfl ?_
        refine z_iaddE (q := 338) dL_step_337 (nI_add _ _) rfl ?_
        refine z_ialdV (q := 339) _ (by with_reducible assumption) (rfl) (by omega) (by decide) (p1) dL_step_338 rfl ?_
        refine z_if_ne (tgt := 346) (q := 342) dL_step_339 (by decide) rfl (fun _ => ?_) (fun hc => False.elim (absurd hc (by decide)))
        refine z_iconst (q := 347) (v := nI 0) dL_step_346 (by rfl) rfl ?_
        refine z_istore (q := 349) dL_step_347 (by decide) rfl ?_
        refine z_aload (q := 351) dL_step_349 rfl rfl ?_
        refine z_iconst (q := 352) (v := nI 5) dL_step_351 (by rfl) rfl ?_
        refine z_iload (q := 354) (i := 6) dL_step_352 rfl rfl ?_
        refine z_imulE (q := 355) dL_step_354 (pk_mul _ _) rfl ?_
        refine z_ialdV (q := 356) _ (by with_reducible assumption) (rfl) (by omega) (by decide) (p0) dL_step_355 rfl ?_
        refine z_aload (q := 358) dL_step_356 rfl rfl ?_
        refine z_iconst (q := 359) (v := nI 5) dL_step_358 (by rfl) rfl ?_
        refine z_iload (q := 361) (i := 6) dL_step_359 rfl rfl ?_
        refine z_imulE (q := 362) dL_step_361 (pk_mul _ _) rfl ?_
        refine z_iconst (q := 363) (v := nI 3) dL_step_362 (by rfl) rfl ?_
        refine z_iaddE (q := 364) dL_step_363 (nI_add _ _) rfl ?_
        refine z_ialdV (q := 365) _ (by with_reducible assumption) (rfl) (by omega) (by decide) (p3) dL_step_364 rfl ?_
        refine z_iaddE (q := 366) dL_step_365 (nI_add _ _) rfl ?_
        refine z_iconst (q := 367) (v := nI 1) dL_step_366 (by rfl) rfl ?_
        refine z_isub (q := 368) dL_step_367 rfl ?_
        refine z_istore (q := 370) dL_step_368 (by decide) rfl ?_
        refine z_iload (q := 372) (i := 7) dL_step_370 rfl rfl ?_
        refine z_if_eq (tgt := 444) (q := 375) dL_step_372 (by decide) rfl (fun _ => ?_) (fun hc => False.elim (hc nI_0))
        refine z_iload (q := 446) (i := 7) dL_step_444 rfl rfl ?_
        refine z_if_eq (tgt := 460) (q := 449) dL_step_446 (by decide) rfl (fun _ => ?_) (fun hc => False.elim (hc nI_0))
        refine z_aload (q := 462) dL_step_460 rfl rfl ?_
        refine z_iconst (q := 463) (v := nI 5) dL_step_462 (by rfl) rfl ?_
        refine z_iload (q := 465) (i := 6) dL_step_463 rfl rfl ?_
        refine z_imulE (q := 466) dL_step_465 (pk_mul _ _) rfl ?_
        refine z_ialdV (q := 467) _ (by with_reducible assumption) (rfl) (by omega) (by decide) (p0) dL_step_466 rfl ?_
        refine z_aload_n (q := 468) dL_step_467 rfl rfl rfl ?_
        refine z_iconst (q := 469) (v := nI 3) dL_step_468 (by rfl) rfl ?_
        refine z_ialdV (q := 470) _ (by with_reducible assumption) (rfl) (by omega) (by decide) (g3) dL_step_469 rfl ?_
        refine z_icmpn_ne (rfl) (rfl) (by omega) (by omega) (tgt := 481) (q := 473) dL_step_470 (by decide) rfl (fun h470 => ?_) (fun h470 => ?_)
        · exact done I2 (by rw [hg1, if_pos (hk1.mpr h470)]; exact hL2) hf g3 _ rfl
        · exact cut I2 (fun z => hk1.mp z h470) (by rw [hg1]; exact hL2) hf g3 _ rfl
  intro ls hls
  refine z_pick [0, 1, 2, 3, 4, 5] hls ?_
  have hz : nI np - nI 1 = nI np - 1 := by rw [zI1]
  refine z_aload_n (q := 319) dL_step_318 rfl rfl rfl ?_
  refine z_iconst (q := 320) (v := nI 2) dL_step_319 (by rfl) rfl ?_
  refine z_ialdV (q := 321) _ (by with_reducible assumption) (rfl) (by omega) (by decide) (hL.2.1) dL_step_320 rfl ?_
  refine z_iconst (q := 322) (v := nI 1) dL_step_321 (by rfl) rfl ?_
  refine z_isubE (q := 323) dL_step_322 (hz) rfl ?_
  refine z_istore (q := 325) dL_step_323 (by decide) rfl ?_
  have e1 : L.take np = L := List.take_of_length_le (by omega)
  have e2 : L.drop np = [] := List.drop_of_length_le (by omega)
  refine loop np (Nat.le_refl _) I ?_ (fun _ _ _ _ => rfl) (by rw [hL.1 3 (by decide) (by decide)]; exact h3) _ rfl
  rw [e1, e2, List.filter_nil, List.append_nil, hLl]
  exact hL

