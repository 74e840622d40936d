/-! THE LAW's acts: walls, a door; the acts whole -/
set_option maxRecDepth 100000 in
set_option maxHeartbeats 4000000 in
theorem act_walls {G : zG} {n n0 : Nat} {T T0 : zTT} {I : zII} {R : zRR} (x b u nr nd np st Bu pc v y S2 B2 : Nat) (W : Int) (z : Int32) (g : Nat → Int32) (p : Nat → Nat → Int32) (hb : b = x + 595) (hn0 : n0 ≤ n) (hsub : ∀ a t, T0 a = some t → T a = some t) (hT0 : LT T0 b) (hTu : T u = some (.inr (.int, 9))) (hbu : b + 6 ≤ u) (hS : z_St T0 R I x g p pc (fun _ => 0) 0) (hL : LWP I b np g (planL g np)) (hH : PH nr nd np st Bu W g) (hst : st ≤ 4000) (hv : v < 10000000) (hS2 : st ≤ S2) (hB2 : Bu ≤ B2) {a c ar : Nat} (ha : a < nr) (hc : c < nr ∨ c = 8) (har : 1 ≤ ar ∧ ar ≤ 1000) (hu : ∀ r, r < 9 → I u r = nI (arN g r nd)) : ∀ ls : List (Nat × Value), lv_pick ls [0, 1, 2, 3, 4, 5, 6, 7, 8, 9, 10, 11, 12, 13] = [(0, .ref x), (1, .ref b), (2, .ref (b + 1)), (3, .ref (b + 2)), (4, .ref (b + 3)), (5, .ref (b + 4)), (6, .ref (b + 5)), (7, .int z), (8, .int (nI v)), (9, .int (nI y)), (10, .int (nI a)), (11, .int (nI c)), (12, .int (nI ar)), (13, .ref u)] → z_X G muL_acts (6, 6, 54) (actQ n0 T0 x b S2 B2) n T I R 1 9 352 ls [] := by
  have hTg := hsub _ _ hT0.1
  have hTr := hsub _ _ hT0.2.1
  have hTd := hsub _ _ hT0.2.2.1
  have hTy := hsub _ _ hT0.2.2.2.1
  have hTp := hsub _ _ hT0.2.2.2.2.1
  have hI := hH.1
  obtain ⟨h4, h4', h8⟩ := hH.2.1
  have g0 : I b 0 = nI nr := by rw [hL.1 0 (by decide) (by decide)]; exact hI.1.1
  have g1 : I b 1 = nI nd := by rw [hL.1 1 (by decide) (by decide)]; exact hI.2.1.1
  have g2 : I b 2 = nI np := hL.2.1
  have g3 : I b 3 = nI st := by rw [hL.1 3 (by decide) (by decide)]; exact hI.2.2.2.1
  have hTx := hS.1.1
  have hTg0 := hT0.1
  have hnr := hI.1.2
  have hx : ¬ (nI a < 0 ∨ g 0 ≤ nI a) := by rw [hI.1.1]; exact nI_i ha (by omega)
  have hy : ¬ ((nI c < 0 ∨ g 0 ≤ nI c) ∧ ¬ nI c = nI 8) := by
    rintro ⟨y1, y2⟩
    rcases hc with h | h
    · rw [hI.1.1] at y1; exact nI_i h (by omega) y1
    · exact y2 (by rw [h])
  have hclc : (nI c).toNatClampNeg = c := nI_clamp (by omega)
  have hcla : (nI a).toNatClampNeg = a := nI_clamp (by omega)
  have hpre : a ≠ c → ∀ s d : Int32, sp_door g (nI a) (nI c) (nI ar) s d = if s < nI 1 ∨ nI 10 < s then (-1, none) else if d < nI 0 ∨ nI 5 < d then (-1, none) else doorP g a c (nI ar) s d := by
    intro hac s d
    rw [sp_door, if_neg hx, if_neg hy, if_neg (fun e => hac ((nI_eq (by omega) (by omega)).mp e)), if_neg (nI_r har.1 har.2 (by omega)), hcla, hclc]
  have hspc : ∀ r, r < nr → (spcG g r (nI ar) ↔ arN g r nd + ar ≤ gN g (9 + 6 * r + 0)) := by
    intro r hr
    obtain ⟨V, hV, hV1, hV2⟩ := ((hI.2.2.2.2.1 r (by omega)).1 hr).1
    obtain ⟨e1, e2⟩ := areas_N hI (r := r) (by omega) nd (Nat.le_refl _)
    show (r = 8 ∨ ¬ g (9 + 6 * r + 0) < areas g (nI r) (gN g 1) + nI ar) ↔ _
    rw [gN_of hI.2.1.1 (by omega), e1, hV, gN_of hV (by omega), nI_add]
    constructor
    · rintro (z | z)
      · omega
      · exact Nat.not_lt.mp (fun q => z (nI_lt q (by omega)))
    · intro z
      exact Or.inr (nI_nlt z (by omega))
  have hspc8 : spcG g 8 (nI ar) := Or.inl rfl
  have hV : ∀ r, r < nr → I (b + 1) (6 * r) = nI (gN g (9 + 6 * r + 0)) ∧ gN g (9 + 6 * r + 0) ≤ 10000 ∧ arN g r nd ≤ 4000 := by
    intro r hr
    obtain ⟨V, hV, hV1, hV2⟩ := ((hI.2.2.2.2.1 r (by omega)).1 hr).1
    obtain ⟨e1, e2⟩ := areas_N hI (r := r) (by omega) nd (Nat.le_refl _)
    rw [gN_of hV (by omega), LW_r0 hL (by omega)]
    exact ⟨hV, hV2, by omega⟩
  have refuse : a ≠ c → ¬ (spcG g a (nI ar) ∧ spcG g c (nI ar)) → ∀ ls : List (Nat × Value), lv_pick ls [0, 1, 2, 3, 4, 5, 6, 7, 8, 9, 10, 11, 12, 13] = [(0, .ref x), (1, .ref b), (2, .ref (b + 1)), (3, .ref (b + 2)), (4, .ref (b + 3)), (5, .ref (b + 4)), (6, .ref (b + 5)), (7, .int z), (8, .int (nI v)), (9, .int (nI y)), (10, .int (nI a)), (11, .int (nI c)), (12, .int (nI ar)), (13, .ref u)] → z_X G muL_acts (6, 6, 54) (actQ n0 T0 x b S2 B2) n T I R 1 9 424 ls [] := by
    intro hac hno ls hls
    have hsp : sp_door g (nI a) (nI c) (nI ar) (nI 1) (nI 0) = (-2, none) := by
      rw [hpre hac, if_neg (by decide), if_neg (by decide), doorP]
      by_cases h1 : spcG g a (nI ar)
      · rw [if_neg (fun q => q h1), if_pos (fun q => hno ⟨h1, q⟩)]
      · rw [if_pos h1]
    refine z_forget (T0 := T0) hsub ?_
    refine z_pick [0, 1, 2, 3, 4, 5, 6, 7, 8, 9, 10, 11, 12, 13] hls ?_
    refine z_aload_n (q := 425) dL_acts_424 rfl rfl rfl ?_
    refine z_iload (q := 427) (i := 10) dL_acts_425 rfl rfl ?_
    refine z_iload (q := 429) (i := 11) dL_acts_427 rfl rfl ?_
    refine z_iload (q := 431) (i := 12) dL_acts_429 rfl rfl ?_
    refine z_iconst (q := 432) (v := nI 1) dL_acts_431 (by rfl) rfl ?_
    refine z_iconst (q := 433) (v := nI 0) dL_acts_432 (by rfl) rfl ?_
    refine z_invV (q := 436) (call_none (c_X7_door G x pc 0 g (fun _ => 0) p hS (nI a) (nI c) (nI ar) (nI 1) (nI 0)) hsp) (by with_reducible assumption) rfl gL_acts_X7_door rfl hy_X7_door rfl rfl rfl rfl (Nat.le_of_ble_eq_true rfl) (by decide) dL_acts_433 rfl (z_rvR fun I2 R2 hZ => ?_)
    refine z_bipush (q := 438) (v := (-2)) dL_acts_436 (by rfl) rfl ?_
    obtain ⟨hSa, hfa⟩ := hZ
    refine z_icmp_ne (tgt := 445) (q := 441) dL_acts_438 (by decide) rfl (fun hc => False.elim (hc rfl)) (fun _ => ?_)
    refine z_iconst (q := 442) (v := nI 1) dL_acts_441 (by rfl) rfl ?_
    refine z_goto (q := 446) dL_acts_442 (by decide) ?_
    exact z_zret rfl (by rfl) dL_acts_446 (by decide) (by decide) (⟨by rw [zI1], hn0, rfl, g, p, pc, nr, nd, np, st, W, hSa, LP_x hb hL hfa, PH_mono hH hB2, hS2⟩)
  have good : a ≠ c → spcG g a (nI ar) → spcG g c (nI ar) → ∀ ls : List (Nat × Value), lv_pick ls [0, 1, 2, 3, 4, 5, 6, 7, 8, 9, 10, 11, 12, 13] = [(0, .ref x), (1, .ref b), (2, .ref (b + 1)), (3, .ref (b + 2)), (4, .ref (b + 3)), (5, .ref (b + 4)), (6, .ref (b + 5)), (7, .int z), (8, .int (nI v)), (9, .int (nI y)), (10, .int (nI a)), (11, .int (nI c)), (12, .int (nI ar)), (13, .ref u)] → z_X G muL_acts (6, 6, 54) (actQ n0 T0 x b S2 B2) n T I R 1 9 447 ls [] := by
    intro hac s1 s2 ls hls
    refine z_forget (T0 := T0) hsub ?_
    refine z_pick [0, 1, 2, 3, 4, 5, 6, 7, 8, 9, 10, 11, 12, 13] hls ?_
    refine z_aload_n (q := 448) dL_acts_447 rfl rfl rfl ?_
    refine z_iconst (q := 449) (v := nI 1) dL_acts_448 (by rfl) rfl ?_
    refine z_ialdV (q := 450) _ (by with_reducible assumption) (rfl) (by omega) (by decide) (g1) dL_acts_449 rfl ?_
    refine z_iconst (q := 451) (v := nI 4) dL_acts_450 (by rfl) rfl ?_
    refine z_icmpn_ne (rfl) (rfl) (by omega) (by omega) (tgt := 493) (q := 454) dL_acts_451 (by decide) rfl (fun h451 => ?_) (fun h451 => ?_)
    · refine act_newdoor x b u nr nd np st Bu pc v y S2 B2 W z g p hb hT0 hS hL hH hn0 hst hv hS2 hB2 (by omega) ha hc hac har ((hspc a ha).mp s1) (fun q => (hspc c q).mp s2) (fun s d h1 h2 h3 => ?_) _ rfl
      rw [hpre hac, if_neg (nI_r h1 h2 (by omega)), if_neg (nI_r (Nat.zero_le _) h3 (by omega)), doorP, if_neg (fun q => q s1), if_neg (fun q => q s2), gN_of hI.2.1.1 (by omega), if_neg (by omega), hI.2.1.1]
    · have hsp1 : sp_door g (nI a) (nI c) (nI ar) (nI 0) (nI 0) = (-1, none) := by rw [hpre hac, if_pos (Or.inl (by decide))]
      have hsp2 : sp_door g (nI a) (nI c) (nI ar) (nI 1) (nI 6) = (-1, none) := by rw [hpre hac, if_neg (by decide), if_pos (Or.inr (by decide))]
      refine z_aload_n (q := 455) dL_acts_454 rfl rfl rfl ?_
      refine z_iload (q := 457) (i := 10) dL_acts_455 rfl rfl ?_
      refine z_iload (q := 459) (i := 11) dL_acts_457 rfl rfl ?_
      refine z_iload (q := 461) (i := 12) dL_acts_459 rfl rfl ?_
      refine z_iconst (q := 462) (v := nI 0) dL_acts_461 (by rfl) rfl ?_
      refine z_iconst (q := 463) (v := nI 0) dL_acts_462 (by rfl) rfl ?_
      refine z_invV (q := 466) (call_none (c_X7_door G x pc 0 g (fun _ => 0) p hS (nI a) (nI c) (nI ar) (nI 0) (nI 0)) hsp1) (by with_reducible assumption) rfl gL_acts_X7_door rfl hy_X7_door rfl rfl rfl rfl (Nat.le_of_ble_eq_true rfl) (by decide) dL_acts_463 rfl (z_rvR fun I2 R2 hZ => ?_)
      refine z_iconst (q := 467) (v := (-1)) dL_acts_466 (by rfl) rfl ?_
      obtain ⟨hSa, hfa⟩ := hZ
      refine z_icmp_ne (tgt := 491) (q := 470) dL_acts_467 (by decide) rfl (fun hc => False.elim (hc rfl)) (fun _ => ?_)
      refine z_aload_n (q := 471) dL_acts_470 rfl rfl rfl ?_
      refine z_iload (q := 473) (i := 10) dL_acts_471 rfl rfl ?_
      refine z_iload (q := 475) (i := 11) dL_acts_473 rfl rfl ?_
      refine z_iload (q := 477) (i := 12) dL_acts_475 rfl rfl ?_
      refine z_iconst (q := 478) (v := nI 1) dL_acts_477 (by rfl) rfl ?_
      refine z_bipush (q := 480) (v := nI 6) dL_acts_478 (by rfl) rfl ?_
      refine z_invV (q := 483) (call_none (c_X7_door G x pc 0 g (fun _ => 0) p hSa (nI a) (nI c) (nI ar) (nI 1) (nI 6)) hsp2) (by with_reducible assumption) rfl gL_acts_X7_door rfl hy_X7_door rfl rfl rfl rfl (Nat.le_of_ble_eq_true rfl) (by decide) dL_acts_480 rfl (z_rvR fun I3 R3 hZ => ?_)
      refine z_iconst (q := 484) (v := (-1)) dL_acts_483 (by rfl) rfl ?_
      obtain ⟨hSb, hfb⟩ := hZ
      refine z_icmp_ne (tgt := 491) (q := 487) dL_acts_484 (by decide) rfl (fun hc => False.elim (hc rfl)) (fun _ => ?_)
      refine z_iconst (q := 488) (v := nI 1) dL_acts_487 (by rfl) rfl ?_
      refine z_goto (q := 492) dL_acts_488 (by decide) ?_
      exact z_zret rfl (by rfl) dL_acts_492 (by decide) (by decide) (⟨by rw [zI1], hn0, rfl, g, p, pc, nr, nd, np, st, W, hSb, LP_x hb (LP_x hb hL hfa) hfb, PH_mono hH hB2, hS2⟩)
  intro ls hls
  obtain ⟨va1, va2, va3⟩ := hV a ha
  have hua := hu a (by omega)
  refine z_pick [0, 1, 2, 3, 4, 5, 6, 7, 8, 9, 10, 11, 12, 13] hls ?_
  refine z_iload (q := 354) (i := 10) dL_acts_352 rfl rfl ?_
  refine z_iload (q := 356) (i := 11) dL_acts_354 rfl rfl ?_
  refine z_icmpn_ne (rfl) (rfl) (by omega) (by omega) (tgt := 381) (q := 359) dL_acts_356 (by decide) rfl (fun h356 => ?_) (fun h356 => ?_)
  · refine z_aload (q := 383) dL_acts_381 rfl rfl ?_
    refine z_iload (q := 385) (i := 10) dL_acts_383 rfl rfl ?_
    refine z_ialdV (q := 386) _ (by with_reducible assumption) (rfl) (by omega) (by decide) (hua) dL_acts_385 rfl ?_
    refine z_iload (q := 388) (i := 12) dL_acts_386 rfl rfl ?_
    refine z_iaddE (q := 389) dL_acts_388 (nI_add _ _) rfl ?_
    refine z_aload_n (q := 390) dL_acts_389 rfl rfl rfl ?_
    refine z_bipush (q := 392) (v := nI 6) dL_acts_390 (by rfl) rfl ?_
    refine z_iload (q := 394) (i := 10) dL_acts_392 rfl rfl ?_
    refine z_imulE (q := 395) dL_acts_394 (pk_mul _ _) rfl ?_
    refine z_ialdV (q := 396) _ (by with_reducible assumption) (rfl) (by omega) (by decide) (va1) dL_acts_395 rfl ?_
    refine z_icmpn_gt (rfl) (rfl) (by omega) (by omega) (tgt := 424) (q := 399) dL_acts_396 (by decide) rfl (fun h396 => ?_) (fun h396 => ?_)
    · exact refuse h356 (fun q => by have := (hspc a ha).mp q.1; omega) _ rfl
    · have s1 := (hspc a ha).mpr h396
      refine z_iload (q := 401) (i := 11) dL_acts_399 rfl rfl ?_
      refine z_bipush (q := 403) (v := nI 8) dL_acts_401 (by rfl) rfl ?_
      refine z_icmpn_ge (rfl) (rfl) (by omega) (by omega) (tgt := 447) (q := 406) dL_acts_403 (by decide) rfl (fun h403 => ?_) (fun h403 => ?_)
      · have hc8 : c = 8 := by omega
        exact good h356 s1 (by rw [hc8]; exact hspc8) _ rfl
      · have hcn : c < nr := by omega
        obtain ⟨vc1, vc2, vc3⟩ := hV c hcn
        have huc := hu c (by omega)
        refine z_aload (q := 408) dL_acts_406 rfl rfl ?_
        refine z_iload (q := 410) (i := 11) dL_acts_408 rfl rfl ?_
        refine z_ialdV (q := 411) _ (by with_reducible assumption) (rfl) (by omega) (by decide) (huc) dL_acts_410 rfl ?_
        refine z_iload (q := 413) (i := 12) dL_acts_411 rfl rfl ?_
        refine z_iaddE (q := 414) dL_acts_413 (nI_add _ _) rfl ?_
        refine z_aload_n (q := 415) dL_acts_414 rfl rfl rfl ?_
        refine z_bipush (q := 417) (v := nI 6) dL_acts_415 (by rfl) rfl ?_
        refine z_iload (q := 419) (i := 11) dL_acts_417 rfl rfl ?_
        refine z_imulE (q := 420) dL_acts_419 (pk_mul _ _) rfl ?_
        refine z_ialdV (q := 421) _ (by with_reducible assumption) (rfl) (by omega) (by decide) (vc1) dL_acts_420 rfl ?_
        refine z_icmpn_le (rfl) (rfl) (by omega) (by omega) (tgt := 447) (q := 424) dL_acts_421 (by decide) rfl (fun h421 => ?_) (fun h421 => ?_)
        · exact good h356 s1 ((hspc c hcn).mpr h421) _ rfl
        · exact refuse h356 (fun q => by have := (hspc c hcn).mp q.2; omega) _ rfl
  · have hsp : sp_door g (nI a) (nI c) (nI ar) (nI 1) (nI 0) = (-1, none) := by rw [sp_door, if_neg hx, if_neg hy, if_pos (by rw [h356])]
    refine z_forget (T0 := T0) hsub ?_
    refine z_aload_n (q := 360) dL_acts_359 rfl rfl rfl ?_
    refine z_iload (q := 362) (i := 10) dL_acts_360 rfl rfl ?_
    refine z_iload (q := 364) (i := 11) dL_acts_362 rfl rfl ?_
    refine z_iload (q := 366) (i := 12) dL_acts_364 rfl rfl ?_
    refine z_iconst (q := 367) (v := nI 1) dL_acts_366 (by rfl) rfl ?_
    refine z_iconst (q := 368) (v := nI 0) dL_acts_367 (by rfl) rfl ?_
    refine z_invV (q := 371) (call_none (c_X7_door G x pc 0 g (fun _ => 0) p hS (nI a) (nI c) (nI ar) (nI 1) (nI 0)) hsp) (by with_reducible assumption) rfl gL_acts_X7_door rfl hy_X7_door rfl rfl rfl rfl (Nat.le_of_ble_eq_true rfl) (by decide) dL_acts_368 rfl (z_rvR fun I2 R2 hZ => ?_)
    refine z_iconst (q := 372) (v := (-1)) dL_acts_371 (by rfl) rfl ?_
    obtain ⟨hSa, hfa⟩ := hZ
    refine z_icmp_ne (tgt := 379) (q := 375) dL_acts_372 (by decide) rfl (fun hc => False.elim (hc rfl)) (fun _ => ?_)
    refine z_iconst (q := 376) (v := nI 1) dL_acts_375 (by rfl) rfl ?_
    refine z_goto (q := 380) dL_acts_376 (by decide) ?_
    exact z_zret rfl (by rfl) dL_acts_380 (by decide) (by decide) (⟨by rw [zI1], hn0, rfl, g, p, pc, nr, nd, np, st, W, hSa, LP_x hb hL hfa, PH_mono hH hB2, hS2⟩)
set_option maxRecDepth 100000 in
set_option maxHeartbeats 4000000 in
theorem act_door {G : zG} {n : Nat} {T : zTT} {I : zII} {R : zRR} (x b nr nd np st Bu pc v y S2 B2 : Nat) (W : Int) (z : Int32) (g : Nat → Int32) (p : Nat → Nat → Int32) (hb : b = x + 595) (hT : LT T b) (hS : z_St T R I x g p pc (fun _ => 0) 0) (hL : LWP I b np g (planL g np)) (hH : PH nr nd np st Bu W g) (hst : st ≤ 4000) (hv : v < 10000000) (hS2 : st ≤ S2) (hB2 : Bu ≤ B2) (hlt : ∀ a t, T a = some t → a < n) {a : Nat} (ha : a < nr) : ∀ ls : List (Nat × Value), lv_pick ls [0, 1, 2, 3, 4, 5, 6, 7, 8, 9, 10] = [(0, .ref x), (1, .ref b), (2, .ref (b + 1)), (3, .ref (b + 2)), (4, .ref (b + 3)), (5, .ref (b + 4)), (6, .ref (b + 5)), (7, .int z), (8, .int (nI v)), (9, .int (nI y)), (10, .int (nI a))] → z_X G muL_acts (6, 6, 54) (actQ n T x b S2 B2) n T I R 0 0 225 ls [] := by
  have hTx := hS.1.1
  have hTg := hT.1
  have hTr := hT.2.1
  have hTd := hT.2.2.1
  have hTy := hT.2.2.2.1
  have hTp := hT.2.2.2.2.1
  have hI := hH.1
  obtain ⟨h4, h4', h8⟩ := hH.2.1
  have g0 : I b 0 = nI nr := by rw [hL.1 0 (by decide) (by decide)]; exact hI.1.1
  have g1 : I b 1 = nI nd := by rw [hL.1 1 (by decide) (by decide)]; exact hI.2.1.1
  have g2 : I b 2 = nI np := hL.2.1
  have g3 : I b 3 = nI st := by rw [hL.1 3 (by decide) (by decide)]; exact hI.2.2.2.1
  have hbn : b + 6 ≤ n := by have := hlt _ _ hT.2.2.2.2.2; omega
  have area : ∀ c ar : Nat, (c < nr ∨ c = 8) → 1 ≤ ar ∧ ar ≤ 1000 → ∀ ls : List (Nat × Value), lv_pick ls [0, 1, 2, 3, 4, 5, 6, 7, 8, 9, 10, 11] = [(0, .ref x), (1, .ref b), (2, .ref (b + 1)), (3, .ref (b + 2)), (4, .ref (b + 3)), (5, .ref (b + 4)), (6, .ref (b + 5)), (7, .int z), (8, .int (nI v)), (9, .int (nI y)), (10, .int (nI a)), (11, .int (nI c))] → z_X G muL_acts (6, 6, 54) (actQ n T x b S2 B2) n T I R 0 0 281 ls [.int (nI ar)] := by
    intro c ar hc har ls hls
    refine z_pick [0, 1, 2, 3, 4, 5, 6, 7, 8, 9, 10, 11] hls ?_
    refine z_istore (q := 283) dL_acts_281 (by decide) rfl ?_
    refine z_bipush (q := 285) (v := nI 9) dL_acts_283 (by rfl) rfl ?_
    refine z_newa (q := 287) (atype := .int) (ty := .int) (9) 2 rfl rfl (fun _ _ h => h) (by rfl) (by decide) (fun _ => rfl) (by decide) (by decide) dL_acts_285 rfl ?_
    refine z_astore (q := 289) dL_acts_287 (by decide) rfl ?_
    refine act_used (T := zN T n (some (.inr (.int, 9)))) (T0 := T) (I := zN I n (fun _ => 0)) (R := zN R n (fun _ => none)) x b n nr nd np st Bu pc v y S2 B2 W z g p hb (Nat.le_succ n) (zN_lt hlt _) hT (zN_s _ _ _) hbn ?_ ?_ hH hst hv (fun I' hu hf ls hls => ?_) (fun r _ => by rw [zN_s]) _ rfl
    · exact St_f hS (fun q j1 j2 => ⟨zN_n _ _ (by omega), zN_n _ _ (by omega)⟩)
    · exact LP_f hL (fun q q1 q2 => zN_n _ _ (by omega))
    · refine act_walls (T := zN T n (some (.inr (.int, 9)))) (T0 := T) x b n nr nd np st Bu pc v y S2 B2 W z g p hb (Nat.le_succ n) (zN_lt hlt _) hT (zN_s _ _ _) hbn ?_ ?_ hH hst hv hS2 hB2 ha hc har hu ls hls
      · exact St_f hS (fun q j1 j2 => ⟨(hf q (by omega)).trans (zN_n _ _ (by omega)), zN_n _ _ (by omega)⟩)
      · exact LP_f hL (fun q q1 q2 => (hf q (by omega)).trans (zN_n _ _ (by omega)))
  have side : ∀ c : Nat, (c < nr ∨ c = 8) → ∀ ls : List (Nat × Value), lv_pick ls [0, 1, 2, 3, 4, 5, 6, 7, 8, 9, 10] = [(0, .ref x), (1, .ref b), (2, .ref (b + 1)), (3, .ref (b + 2)), (4, .ref (b + 3)), (5, .ref (b + 4)), (6, .ref (b + 5)), (7, .int z), (8, .int (nI v)), (9, .int (nI y)), (10, .int (nI a))] → z_X G muL_acts (6, 6, 54) (actQ n T x b S2 B2) n T I R 0 0 256 ls [.int (nI c)] := by
    intro c hc ls hls
    refine z_pick [0, 1, 2, 3, 4, 5, 6, 7, 8, 9, 10] hls ?_
    refine z_istore (q := 258) dL_acts_256 (by decide) rfl ?_
    refine z_iconst (q := 259) (v := nI 1) dL_acts_258 (by rfl) rfl ?_
    refine z_iload (q := 261) (i := 8) dL_acts_259 rfl rfl ?_
    refine z_bipush (q := 263) (v := nI 20) dL_acts_261 (by rfl) rfl ?_
    refine z_idivE (q := 264) dL_acts_263 (by decide) (pk_div (by omega) (by decide) (by decide)) rfl ?_
    refine z_iload (q := 266) (i := 8) dL_acts_264 rfl rfl ?_
    refine z_iconst (q := 267) (v := nI 5) dL_acts_266 (by rfl) rfl ?_
    refine z_iremE (q := 268) dL_acts_267 (by decide) (pk_rem (by omega) (by decide) (by decide)) rfl ?_
    refine z_if_ne (tgt := 277) (q := 271) dL_acts_268 (by decide) rfl (fun h268 => ?_) (fun h268 => ?_)
    · refine z_bipush (q := 279) (v := nI 20) dL_acts_277 (by rfl) rfl ?_
      refine z_iremE (q := 280) dL_acts_279 (by decide) (pk_rem (by omega) (by decide) (by decide)) rfl ?_
      refine z_iaddE (q := 281) dL_acts_280 (nI_add _ _) rfl ?_
      exact area c (1 + v / 20 % 20) hc (by omega) _ rfl
    · refine z_sipush (q := 274) (v := nI 1000) dL_acts_271 (by rfl) rfl ?_
      refine z_goto (q := 279) dL_acts_274 (by decide) ?_
      refine z_iremE (q := 280) dL_acts_279 (by decide) (pk_rem (by omega) (by decide) (by decide)) rfl ?_
      refine z_iaddE (q := 281) dL_acts_280 (nI_add _ _) rfl ?_
      exact area c (1 + v / 20 % 1000) hc (by omega) _ rfl
  intro ls hls
  refine z_pick [0, 1, 2, 3, 4, 5, 6, 7, 8, 9, 10] hls ?_
  refine z_iload (q := 227) (i := 8) dL_acts_225 rfl rfl ?_
  refine z_iconst (q := 228) (v := nI 4) dL_acts_227 (by rfl) rfl ?_
  refine z_idivE (q := 229) dL_acts_228 (by decide) (pk_div (by omega) (by decide) (by decide)) rfl ?_
  refine z_aload_n (q := 230) dL_acts_229 rfl rfl rfl ?_
  refine z_iconst (q := 231) (v := nI 0) dL_acts_230 (by rfl) rfl ?_
  refine z_ialdV (q := 232) _ (by with_reducible assumption) (rfl) (by omega) (by decide) (g0) dL_acts_231 rfl ?_
  refine z_iconst (q := 233) (v := nI 1) dL_acts_232 (by rfl) rfl ?_
  refine z_iaddE (q := 234) dL_acts_233 (nI_add _ _) rfl ?_
  refine z_iremE (q := 235) (v := nI (v / 4 % (nr + 1))) dL_acts_234 (nI_ne0 (by omega) (by omega)) (pk_rem (by omega) (by omega) (by omega)) rfl ?_
  have hlt2 : v / 4 % (nr + 1) < nr + 1 := Nat.mod_lt _ (by omega)
  refine z_aload_n (q := 236) dL_acts_235 rfl rfl rfl ?_
  refine z_iconst (q := 237) (v := nI 0) dL_acts_236 (by rfl) rfl ?_
  refine z_ialdV (q := 238) _ (by with_reducible assumption) (rfl) (by omega) (by decide) (g0) dL_acts_237 rfl ?_
  refine z_icmpn_ne (rfl) (rfl) (by omega) (by omega) (tgt := 246) (q := 241) dL_acts_238 (by decide) rfl (fun h238 => ?_) (fun h238 => ?_)
  · refine z_iload (q := 248) (i := 8) dL_acts_246 rfl rfl ?_
    refine z_iconst (q := 249) (v := nI 4) dL_acts_248 (by rfl) rfl ?_
    refine z_idivE (q := 250) dL_acts_249 (by decide) (pk_div (by omega) (by decide) (by decide)) rfl ?_
    refine z_aload_n (q := 251) dL_acts_250 rfl rfl rfl ?_
    refine z_iconst (q := 252) (v := nI 0) dL_acts_251 (by rfl) rfl ?_
    refine z_ialdV (q := 253) _ (by with_reducible assumption) (rfl) (by omega) (by decide) (g0) dL_acts_252 rfl ?_
    refine z_iconst (q := 254) (v := nI 1) dL_acts_253 (by rfl) rfl ?_
    refine z_iaddE (q := 255) dL_acts_254 (nI_add _ _) rfl ?_
    refine z_iremE (q := 256) (v := nI (v / 4 % (nr + 1))) dL_acts_255 (nI_ne0 (by omega) (by omega)) (pk_rem (by omega) (by omega) (by omega)) rfl ?_
    exact side _ (Or.inl (by omega)) _ rfl
  · refine z_bipush (q := 243) (v := nI 8) dL_acts_241 (by rfl) rfl ?_
    refine z_goto (q := 256) dL_acts_243 (by decide) ?_
    exact side 8 (Or.inr rfl) _ rfl
set_option maxRecDepth 100000 in
set_option maxHeartbeats 4000000 in
theorem c_L_acts (G : zG) {n : Nat} {T : zTT} {I : zII} {R : zRR} (x b S B : Nat) (z : Int32) (hb : b = x + 595) (hT : LT T b) (hS : LST T R I x b S B) (hS4 : S ≤ 4000) (hBB : B + 240 ≤ 15800) (hlt : ∀ a t, T a = some t → a < n) : Ct G yL_acts wsL_acts (6, 6, 54) [.ref x, .ref b, .ref (b + 1), .ref (b + 2), .ref (b + 3), .ref (b + 4), .ref (b + 5), .int z] n T I R (actQ n T x b (if lowN z 26 < 3 then S else S + 6) (if lowN z 26 < 3 then B else B + 240)) := by
  refine Ct.ofX (M := muL_acts) (ls := [(0, .ref x), (1, .ref b), (2, .ref (b + 1)), (3, .ref (b + 2)), (4, .ref (b + 3)), (5, .ref (b + 4)), (6, .ref (b + 5)), (7, .int z)]) (by decide +kernel) rfl (by decide) rfl rfl (Nat.le_of_ble_eq_true rfl) ?_
  obtain ⟨g, p, pc, nr, nd, np, st, W, hS0, hL, hH, hstS⟩ := hS
  have hst : st ≤ 4000 := by omega
  have hTg := hT.1
  have hI := hH.1
  obtain ⟨h4, h4', h8⟩ := hH.2.1
  have g0 : I b 0 = nI nr := by rw [hL.1 0 (by decide) (by decide)]; exact hI.1.1
  have g1 : I b 1 = nI nd := by rw [hL.1 1 (by decide) (by decide)]; exact hI.2.1.1
  refine z_iload (q := 2) (i := 7) dL_acts_0 rfl rfl ?_
  refine z_iconst (q := 3) (v := nI 5) dL_acts_2 (by rfl) rfl ?_
  refine z_ishr (q := 4) dL_acts_3 rfl ?_
  refine z_ldc (q := 6) (i := 1) (v := 10000000) rfl dL_acts_4 rfl ?_
  refine z_invS (q := 9) (c_L_low G (z >>> (nI 5 &&& 31)) 10000000 (by decide) (by decide)) gL_acts_L_low rfl hy_L_low rfl rfl rfl rfl (Nat.le_of_ble_eq_true rfl) ⟨Nat.zero_le _, Nat.zero_le _⟩ dL_acts_6 rfl (z_rv ?_)
  have hv := lowN_lt (z >>> (nI 5 &&& 31)) (m := 10000000) (by decide)
  generalize lowN (z >>> (nI 5 &&& 31)) 10000000 = v at hv
  refine z_istore (q := 11) dL_acts_9 (by decide) rfl ?_
  refine z_iload (q := 13) (i := 7) dL_acts_11 rfl rfl ?_
  refine z_bipush (q := 15) (v := nI 26) dL_acts_13 (by rfl) rfl ?_
  refine z_invS (q := 18) (c_L_low G z 26 (by decide) (by decide)) gL_acts_L_low rfl hy_L_low rfl rfl rfl rfl (Nat.le_of_ble_eq_true rfl) ⟨Nat.zero_le _, Nat.zero_le _⟩ dL_acts_15 rfl (z_rv ?_)
  refine z_istore (q := 20) dL_acts_18 (by decide) rfl ?_
  have hy := lowN_lt z (m := 26) (by decide)
  have hS2a : S ≤ (if lowN z 26 < 3 then S else S + 6) := by split <;> omega
  have hB2a : B ≤ (if lowN z 26 < 3 then B else B + 240) := by split <;> omega
  have hS2b : 3 ≤ lowN z 26 → S + 6 ≤ (if lowN z 26 < 3 then S else S + 6) := fun q => by rw [if_neg (by omega)]; omega
  have hB2b : 3 ≤ lowN z 26 → B + 240 ≤ (if lowN z 26 < 3 then B else B + 240) := fun q => by rw [if_neg (by omega)]; omega
  generalize (if lowN z 26 < 3 then S else S + 6) = S2 at hS2a hS2b ⊢
  generalize (if lowN z 26 < 3 then B else B + 240) = B2 at hB2a hB2b ⊢
  generalize lowN z 26 = y at hy hS2b hB2b ⊢
  have room := fun ls hls => act_room (G := G) (n := n) x b nr nd np st B pc v y S2 B2 W z g p hb hT hS0 hL hH hst hv (by omega) hB2a ls hls
  refine z_iload (q := 22) (i := 9) dL_acts_20 rfl rfl ?_
  refine z_if_eq (tgt := 31) (q := 25) dL_acts_22 (by decide) rfl (fun h22 => ?_) (fun h22 => ?_)
  · exact room _ rfl
  refine z_aload_n (q := 26) dL_acts_25 rfl rfl rfl ?_
  refine z_iconst (q := 27) (v := nI 0) dL_acts_26 (by rfl) rfl ?_
  refine z_ialdV (q := 28) _ (by with_reducible assumption) (rfl) (by omega) (by decide) (g0) dL_acts_27 rfl ?_
  refine z_if_ne (tgt := 211) (q := 31) dL_acts_28 (by decide) rfl (fun h28 => ?_) (fun h28 => ?_)
  · have hnr : 0 < nr := Nat.pos_of_ne_zero (fun q => h28 (by rw [q]; exact nI_0))
    have ha : v % nr < nr := Nat.mod_lt _ hnr
    refine z_iload (q := 213) (i := 8) dL_acts_211 rfl rfl ?_
    refine z_aload_n (q := 214) dL_acts_213 rfl rfl rfl ?_
    refine z_iconst (q := 215) (v := nI 0) dL_acts_214 (by rfl) rfl ?_
    refine z_ialdV (q := 216) _ (by with_reducible assumption) (rfl) (by omega) (by decide) (g0) dL_acts_215 rfl ?_
    refine z_iremE (q := 217) (v := nI (v % nr)) dL_acts_216 (nI_ne0 hnr (by omega)) (pk_rem (by omega) hnr (by omega)) rfl ?_
    generalize v % nr = a at ha
    refine z_istore (q := 219) dL_acts_217 (by decide) rfl ?_
    refine z_iload (q := 221) (i := 9) dL_acts_219 rfl rfl ?_
    refine z_iconst (q := 222) (v := nI 3) dL_acts_221 (by rfl) rfl ?_
    refine z_icmpn_ge (rfl) (rfl) (by omega) (by omega) (tgt := 665) (q := 225) dL_acts_222 (by decide) rfl (fun h222 => ?_) (fun h222 => ?_)
    · have hS2 := hS2b h222
      have hB2 := hB2b h222
      have doors : ∀ ls : List (Nat × Value), lv_pick ls [0, 1, 2, 3, 4, 5, 6, 7, 8, 9, 10] = [(0, .ref x), (1, .ref b), (2, .ref (b + 1)), (3, .ref (b + 2)), (4, .ref (b + 3)), (5, .ref (b + 4)), (6, .ref (b + 5)), (7, .int z), (8, .int (nI v)), (9, .int (nI y)), (10, .int (nI a))] → z_X G muL_acts (6, 6, 54) (actQ n T x b S2 B2) n T I R 0 0 686 ls [] := by
        intro ls hls
        refine z_pick [0, 1, 2, 3, 4, 5, 6, 7, 8, 9, 10] hls ?_
        refine z_aload_n (q := 687) dL_acts_686 rfl rfl rfl ?_
        refine z_iconst (q := 688) (v := nI 1) dL_acts_687 (by rfl) rfl ?_
        refine z_ialdV (q := 689) _ (by with_reducible assumption) (rfl) (by omega) (by decide) (g1) dL_acts_688 rfl ?_
        refine z_if_ne (tgt := 731) (q := 692) dL_acts_689 (by decide) rfl (fun h689 => ?_) (fun h689 => ?_)
        · have hnd : 0 < nd := Nat.pos_of_ne_zero (fun q => h689 (by rw [q]; exact nI_0))
          have hk : v % nd < nd := Nat.mod_lt _ hnd
          refine z_iload (q := 733) (i := 8) dL_acts_731 rfl rfl ?_
          refine z_aload_n (q := 734) dL_acts_733 rfl rfl rfl ?_
          refine z_iconst (q := 735) (v := nI 1) dL_acts_734 (by rfl) rfl ?_
          refine z_ialdV (q := 736) _ (by with_reducible assumption) (rfl) (by omega) (by decide) (g1) dL_acts_735 rfl ?_
          refine z_iremE (q := 737) (v := nI (v % nd)) dL_acts_736 (nI_ne0 hnd (by omega)) (pk_rem (by omega) hnd (by omega)) rfl ?_
          generalize v % nd = k at hk
          have ht : v / 4 % 11 ≤ 10 := by omega
          refine z_istore (q := 739) dL_acts_737 (by decide) rfl ?_
          refine z_iload (q := 741) (i := 8) dL_acts_739 rfl rfl ?_
          refine z_iconst (q := 742) (v := nI 4) dL_acts_741 (by rfl) rfl ?_
          refine z_idivE (q := 743) dL_acts_742 (by decide) (pk_div (by omega) (by decide) (by decide)) rfl ?_
          refine z_bipush (q := 745) (v := nI 11) dL_acts_743 (by rfl) rfl ?_
          refine z_iremE (q := 746) dL_acts_745 (by decide) (pk_rem (by omega) (by decide) (by decide)) rfl ?_
          refine z_istore (q := 748) dL_acts_746 (by decide) rfl ?_
          refine z_iload (q := 750) (i := 9) dL_acts_748 rfl rfl ?_
          refine z_bipush (q := 752) (v := nI 6) dL_acts_750 (by rfl) rfl ?_
          refine z_icmpn_ge (rfl) (rfl) (by omega) (by omega) (tgt := 830) (q := 755) dL_acts_752 (by decide) rfl (fun h752 => ?_) (fun h752 => ?_)
          · refine z_iload (q := 832) (i := 9) dL_acts_830 rfl rfl ?_
            refine z_bipush (q := 834) (v := nI 8) dL_acts_832 (by rfl) rfl ?_
            refine z_icmpn_ge (rfl) (rfl) (by omega) (by omega) (tgt := 955) (q := 837) dL_acts_834 (by decide) rfl (fun h834 => ?_) (fun h834 => ?_)
            · exact act_target x b nr nd np st B pc v y S2 B2 W z g p hb hT hS0 hL hH hst hv (by omega) (by omega) hk ht _ rfl
            · exact act_lock x b nr nd np st B pc v y S2 B2 W z g p hb hT hS0 hL hH hst hv (by omega) (by omega) hk _ rfl
          · exact act_open x b nr nd np st B pc v y S2 B2 W z g p hb hT hS0 hL hH hst hv (by omega) (by omega) hk ht _ rfl
        · have hnd : nd = 0 := by
            rcases Nat.eq_zero_or_pos nd with e | e
            · exact e
            · exact absurd h689 (nI_ne0 e (by omega))
          exact act_none x b nr nd np st B pc v y S2 B2 W z g p hb hT hS0 hL hH hst hv (by omega) (by omega) hnd _ rfl
      refine z_iload (q := 667) (i := 9) dL_acts_665 rfl rfl ?_
      refine z_bipush (q := 669) (v := nI 9) dL_acts_667 (by rfl) rfl ?_
      refine z_icmpn_lt (rfl) (rfl) (by omega) (by omega) (tgt := 686) (q := 672) dL_acts_669 (by decide) rfl (fun h669 => ?_) (fun h669 => ?_)
      · exact doors _ rfl
      refine z_iload (q := 674) (i := 9) dL_acts_672 rfl rfl ?_
      refine z_bipush (q := 676) (v := nI 13) dL_acts_674 (by rfl) rfl ?_
      refine z_icmpn_eq (rfl) (rfl) (by omega) (by omega) (tgt := 686) (q := 679) dL_acts_676 (by decide) rfl (fun h676 => ?_) (fun h676 => ?_)
      · exact doors _ rfl
      refine z_iload (q := 681) (i := 9) dL_acts_679 rfl rfl ?_
      refine z_bipush (q := 683) (v := nI 14) dL_acts_681 (by rfl) rfl ?_
      refine z_icmpn_ne (rfl) (rfl) (by omega) (by omega) (tgt := 1040) (q := 686) dL_acts_683 (by decide) rfl (fun h683 => ?_) (fun h683 => ?_)
      · refine z_iload (q := 1042) (i := 9) dL_acts_1040 rfl rfl ?_
        refine z_bipush (q := 1044) (v := nI 9) dL_acts_1042 (by rfl) rfl ?_
        refine z_icmpn_ne (rfl) (rfl) (by omega) (by omega) (tgt := 1112) (q := 1047) dL_acts_1044 (by decide) rfl (fun h1044 => ?_) (fun h1044 => ?_)
        · refine z_iload (q := 1114) (i := 9) dL_acts_1112 rfl rfl ?_
          refine z_bipush (q := 1116) (v := nI 13) dL_acts_1114 (by rfl) rfl ?_
          refine z_icmpn_ge (rfl) (rfl) (by omega) (by omega) (tgt := 1275) (q := 1119) dL_acts_1116 (by decide) rfl (fun h1116 => ?_) (fun h1116 => ?_)
          · refine z_iload (q := 1277) (i := 9) dL_acts_1275 rfl rfl ?_
            refine z_bipush (q := 1279) (v := nI 15) dL_acts_1277 (by rfl) rfl ?_
            refine z_icmpn_ne (rfl) (rfl) (by omega) (by omega) (tgt := 1337) (q := 1282) dL_acts_1279 (by decide) rfl (fun h1279 => ?_) (fun h1279 => ?_)
            · exact act_pass x b nr nd np st B pc v y S2 B2 W z g p hb hT hS0 hL hH hst hv (by omega) (by omega) hBB hlt _ rfl
            · exact act_cancel x b nr nd np st B pc v y S2 B2 W z g p hb hT hS0 hL hH hst hv (by omega) (by omega) _ rfl
          · exact act_sound x b nr nd np st B pc v y S2 B2 W z g p hb hT hS0 hL hH hst hv (by omega) (by omega) hBB ha _ rfl
        · exact act_set x b nr nd np st B pc v y S2 B2 W z g p hb hT hS0 hL hH hst hv (by omega) (by omega) _ rfl
      · exact doors _ rfl
    · exact act_door x b nr nd np st B pc v y S2 B2 W z g p hb hT hS0 hL hH hst hv (by omega) hB2a hlt ha _ rfl
  · exact room _ rfl

