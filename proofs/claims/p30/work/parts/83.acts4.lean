/-! THE LAW's acts: steps pass; a door -/
set_option maxRecDepth 100000 in
set_option maxHeartbeats 4000000 in
theorem act_pass {G : zG} {n : Nat} {T : zTT} {I : zII} {R : zRR} (x b nr nd np st Bu pc v y S2 B2 : Nat) (W : Int) (z : Int32) (g : Nat → Int32) (p : Nat → Nat → Int32) (hb : b = x + 595) (hT : LT T b) (hS : z_St T R I x g p pc (fun _ => 0) 0) (hL : LWP I b np g (planL g np)) (hH : PH nr nd np st Bu W g) (hst : st ≤ 4000) (hv : v < 10000000) (hS2 : st + 6 ≤ S2) (hB2 : Bu + 240 ≤ B2) (hBB : Bu + 240 ≤ 15800) (hlt : ∀ a t, T a = some t → a < n) {a : Nat} : ∀ ls : List (Nat × Value), lv_pick ls [0, 1, 2, 3, 4, 5, 6, 7, 8, 9, 10] = [(0, .ref x), (1, .ref b), (2, .ref (b + 1)), (3, .ref (b + 2)), (4, .ref (b + 3)), (5, .ref (b + 4)), (6, .ref (b + 5)), (7, .int z), (8, .int (nI v)), (9, .int (nI y)), (10, .int (nI a))] → z_X G muL_acts (6, 6, 54) (actQ n T x b S2 B2) n T I R 0 0 1337 ls [] := by
  have hTx := hS.1.1
  have hTg := hT.1
  have hTr := hT.2.1
  have hTd := hT.2.2.1
  have hTy := hT.2.2.2.1
  have hTp := hT.2.2.2.2.1
  have hI := hH.1
  obtain ⟨h4, h4', h8⟩ := hH.2.1
  have g0 : I b 0 = nI nr := by rw [hL.1 0 (by decide) (by decide)]; exact hI.1.1
  have g1 : I b 1 = nI nd := by rw [hL.1 1 (by decide) (by decide)]; exact hI.2.1.1
  have g2 : I b 2 = nI np := hL.2.1
  have g3 : I b 3 = nI st := by rw [hL.1 3 (by decide) (by decide)]; exact hI.2.2.2.1
  have loop : ∀ m : Nat, 1 ≤ m → m ≤ 6 → ∀ j, j ≤ m → ∀ (I2 : zII) (R2 : zRR) (np2 wu : Nat) (W2 : Int), wu = 8 * j → PH nr nd np2 (st + j) (Bu + 40 * j) W2 (passN g j) → LWP I2 b np2 (passN g j) (planL (passN g j) np2) → (∀ q, q < b → I2 q = I q ∧ R2 q = R q) → ∀ ls : List (Nat × Value), lv_pick ls [0, 1, 2, 3, 4, 5, 6, 7, 8, 9, 10, 11, 12] = [(0, .ref x), (1, .ref b), (2, .ref (b + 1)), (3, .ref (b + 2)), (4, .ref (b + 3)), (5, .ref (b + 4)), (6, .ref (b + 5)), (7, .int z), (8, .int (nI v)), (9, .int (nI y)), (10, .int (nI a)), (11, .int (nI m)), (12, .int (nI j))] → z_X G muL_acts (6, 6, 54) (actQ n T x b S2 B2) (n + j) T I2 R2 j wu 1349 ls [] := by
    intro m hm1 hm6
    refine z_up (N := m) _ ?_ ?_
    · intro I2 R2 np2 wu W2 hwu hH2 hL2 hf ls hls
      have s2 : z_St T R2 I2 x g p pc (fun _ => 0) 0 := St_f hS (fun q j1 j2 => hf q (by omega))
      have h3 : passN g m 3 = nI (st + m) := hH2.1.2.2.2.1
      have hsp : sp_pass g (nI m) = (nI (st + m), some (passN g m)) := by
        rw [sp_pass, if_neg (nI_r hm1 (show m ≤ 50 by omega) (by omega)), hI.2.2.2.1, nI_add, if_neg (nI_nlt (by omega) (by omega)), nI_clamp (by omega), h3]
      refine z_pick [0, 1, 2, 3, 4, 5, 6, 7, 8, 9, 10, 11, 12] hls ?_
      refine z_iload (q := 1351) (i := 12) dL_acts_1349 rfl rfl ?_
      refine z_iload (q := 1353) (i := 11) dL_acts_1351 rfl rfl ?_
      refine z_icmpn_ge (rfl) (rfl) (by omega) (by omega) (tgt := 1374) (q := 1356) dL_acts_1353 (by decide) rfl (fun _ => ?_) (fun hc => absurd hc (by omega))
      refine z_aload_n (q := 1375) dL_acts_1374 rfl rfl rfl ?_
      refine z_iload (q := 1377) (i := 11) dL_acts_1375 rfl rfl ?_
      refine z_invV (q := 1380) (call_some (c_X7_pass G x pc 0 g (fun _ => 0) p s2 (nI m)) hsp) (by with_reducible assumption) rfl gL_acts_X7_pass rfl hy_X7_pass rfl rfl rfl rfl (Nat.le_of_ble_eq_true rfl) (show m ≤ 6 ∧ wu ≤ 54 by omega) dL_acts_1377 rfl (z_rvR fun I3 R3 hZ => ?_)
      obtain ⟨hSa, hfa⟩ := hZ
      have l3 := LP_x hb hL2 hfa
      have g33 : I3 b 3 = nI (st + m) := by rw [l3.1 3 (by decide) (by decide)]; exact h3
      refine z_aload_n (q := 1381) dL_acts_1380 rfl rfl rfl ?_
      refine z_iconst (q := 1382) (v := nI 3) dL_acts_1381 (by rfl) rfl ?_
      refine z_ialdV (q := 1383) _ (by with_reducible assumption) (rfl) (by omega) (by decide) (g33) dL_acts_1382 rfl ?_
      refine z_icmp_ne (tgt := 1390) (q := 1386) dL_acts_1383 (by decide) rfl (fun hc => False.elim (hc rfl)) (fun _ => ?_)
      refine z_iconst (q := 1387) (v := nI 1) dL_acts_1386 (by rfl) rfl ?_
      refine z_goto (q := 1391) dL_acts_1387 (by decide) ?_
      exact z_zret rfl (by rfl) dL_acts_1391 (show m ≤ 6 by omega) (show wu ≤ 54 by omega) ⟨by rw [zI1], Nat.le_add_right _ _, rfl, _, _, _, nr, nd, np2, st + m, W2, hSa, l3, PH_mono hH2 (by omega), by omega⟩
    · intro j hj ih I2 R2 np2 wu W2 hwu hH2 hL2 hf ls hls
      refine z_pick [0, 1, 2, 3, 4, 5, 6, 7, 8, 9, 10, 11, 12] hls ?_
      refine z_iload (q := 1351) (i := 12) dL_acts_1349 rfl rfl ?_
      refine z_iload (q := 1353) (i := 11) dL_acts_1351 rfl rfl ?_
      refine z_icmpn_ge (rfl) (rfl) (by omega) (by omega) (tgt := 1374) (q := 1356) dL_acts_1353 (by decide) rfl (fun hc => absurd hc (by omega)) (fun _ => ?_)
      refine z_aload_n (q := 1357) dL_acts_1356 rfl rfl rfl ?_
      refine z_aload_n (q := 1358) dL_acts_1357 rfl rfl rfl ?_
      refine z_aload_n (q := 1359) dL_acts_1358 rfl rfl rfl ?_
      refine z_aload (q := 1361) dL_acts_1359 rfl rfl ?_
      refine z_aload (q := 1363) dL_acts_1361 rfl rfl ?_
      refine z_aload (q := 1365) dL_acts_1363 rfl rfl ?_
      refine z_invS' (q := 1368) (c_L_step G b nr nd np2 (st + j) (Bu + 40 * j) W2 (passN g j) hT hL2 hH2 (by omega) (by omega) (fun a t ht => by have := hlt a t ht; omega)) gL_acts_L_step rfl hy_L_step rfl rfl rfl rfl (Nat.le_of_ble_eq_true rfl) (show j + 1 ≤ 6 ∧ wu + 8 ≤ 54 by omega) dL_acts_1365 rfl ?_
      rintro r3 n3 T3 I3 R3 ⟨hr3, hn3, hT3, ⟨np3, W3, hH3, hL3⟩, hfI, hfR⟩
      rw [hr3, hn3, hT3]
      show z_X G muL_acts (6, 6, 54) (actQ n T x b S2 B2) (n + (j + 1)) T I3 R3 (j + 1) (wu + 8) 1368 _ []
      refine z_iinc (q := 1371) dL_acts_1368 rfl (nI_add _ 1) (by decide) rfl ?_
      refine z_goto (q := 1349) dL_acts_1371 (by decide) ?_
      exact ih I3 R3 np3 (wu + 8) W3 (by omega) (PH_mono hH3 (by omega)) hL3 (fun q hq => ⟨(hfI q hq).trans (hf q hq).1, (hfR q hq).trans (hf q hq).2⟩) _ rfl
  intro ls hls
  refine z_pick [0, 1, 2, 3, 4, 5, 6, 7, 8, 9, 10] hls ?_
  refine z_iconst (q := 1338) (v := nI 1) dL_acts_1337 (by rfl) rfl ?_
  refine z_iload (q := 1340) (i := 8) dL_acts_1338 rfl rfl ?_
  refine z_bipush (q := 1342) (v := nI 6) dL_acts_1340 (by rfl) rfl ?_
  refine z_iremE (q := 1343) dL_acts_1342 (by decide) (pk_rem (by omega) (by decide) (by decide)) rfl ?_
  refine z_iaddE (q := 1344) dL_acts_1343 (nI_add _ _) rfl ?_
  refine z_istore (q := 1346) dL_acts_1344 (by decide) rfl ?_
  refine z_iconst (q := 1347) (v := nI 0) dL_acts_1346 (by rfl) rfl ?_
  refine z_istore (q := 1349) dL_acts_1347 (by decide) rfl ?_
  exact loop (1 + v % 6) (by omega) (by omega) 0 (Nat.zero_le _) I R np 0 W rfl hH hL (fun _ _ => ⟨rfl, rfl⟩) _ rfl
set_option maxRecDepth 100000 in
set_option maxHeartbeats 4000000 in
theorem act_used {G : zG} {n n0 : Nat} {T T0 : zTT} {I : zII} {R : zRR} (x b u nr nd np st Bu pc v y S2 B2 : Nat) (W : Int) (z : Int32) (g : Nat → Int32) (p : Nat → Nat → Int32) (hb : b = x + 595) (hn0 : n0 ≤ n) (hsub : ∀ a t, T0 a = some t → T a = some t) (hT0 : LT T0 b) (hTu : T u = some (.inr (.int, 9))) (hbu : b + 6 ≤ u) (hS : z_St T0 R I x g p pc (fun _ => 0) 0) (hL : LWP I b np g (planL g np)) (hH : PH nr nd np st Bu W g) (hst : st ≤ 4000) (hv : v < 10000000) {a c ar : Nat} (kk : ∀ I' : zII, (∀ r, r < 9 → I' u r = nI (arN g r nd)) → (∀ q, q ≠ u → I' q = I q) → ∀ ls : List (Nat × Value), lv_pick ls [0, 1, 2, 3, 4, 5, 6, 7, 8, 9, 10, 11, 12, 13] = [(0, .ref x), (1, .ref b), (2, .ref (b + 1)), (3, .ref (b + 2)), (4, .ref (b + 3)), (5, .ref (b + 4)), (6, .ref (b + 5)), (7, .int z), (8, .int (nI v)), (9, .int (nI y)), (10, .int (nI a)), (11, .int (nI c)), (12, .int (nI ar)), (13, .ref u)] → z_X G muL_acts (6, 6, 54) (actQ n0 T0 x b S2 B2) n T I' R 1 9 352 ls []) (h0 : ∀ r, r < 9 → I u r = 0) : ∀ ls : List (Nat × Value), lv_pick ls [0, 1, 2, 3, 4, 5, 6, 7, 8, 9, 10, 11, 12, 13] = [(0, .ref x), (1, .ref b), (2, .ref (b + 1)), (3, .ref (b + 2)), (4, .ref (b + 3)), (5, .ref (b + 4)), (6, .ref (b + 5)), (7, .int z), (8, .int (nI v)), (9, .int (nI y)), (10, .int (nI a)), (11, .int (nI c)), (12, .int (nI ar)), (13, .ref u)] → z_X G muL_acts (6, 6, 54) (actQ n0 T0 x b S2 B2) n T I R 1 9 289 ls [] := by
  have hTg := hsub _ _ hT0.1
  have hTr := hsub _ _ hT0.2.1
  have hTd := hsub _ _ hT0.2.2.1
  have hTy := hsub _ _ hT0.2.2.2.1
  have hTp := hsub _ _ hT0.2.2.2.2.1
  have hI := hH.1
  obtain ⟨h4, h4', h8⟩ := hH.2.1
  have g0 : I b 0 = nI nr := by rw [hL.1 0 (by decide) (by decide)]; exact hI.1.1
  have g1 : I b 1 = nI nd := by rw [hL.1 1 (by decide) (by decide)]; exact hI.2.1.1
  have g2 : I b 2 = nI np := hL.2.1
  have g3 : I b 3 = nI st := by rw [hL.1 3 (by decide) (by decide)]; exact hI.2.2.2.1
  have loop : ∀ i, i ≤ nd → ∀ I2 : zII, (∀ r, r < 9 → I2 u r = nI (arN g r i)) → (∀ q, q ≠ u → I2 q = I q) → ∀ ls : List (Nat × Value), lv_pick ls [0, 1, 2, 3, 4, 5, 6, 7, 8, 9, 10, 11, 12, 13, 14] = [(0, .ref x), (1, .ref b), (2, .ref (b + 1)), (3, .ref (b + 2)), (4, .ref (b + 3)), (5, .ref (b + 4)), (6, .ref (b + 5)), (7, .int z), (8, .int (nI v)), (9, .int (nI y)), (10, .int (nI a)), (11, .int (nI c)), (12, .int (nI ar)), (13, .ref u), (14, .int (nI i))] → z_X G muL_acts (6, 6, 54) (actQ n0 T0 x b S2 B2) n T I2 R 1 9 292 ls [] := by
    refine z_up (N := nd) _ ?_ ?_
    · intro I2 hu hf ls hls
      have g1' : I2 b 1 = nI nd := by rw [hf b (by omega)]; exact g1
      refine z_pick [0, 1, 2, 3, 4, 5, 6, 7, 8, 9, 10, 11, 12, 13, 14] hls ?_
      refine z_iload (q := 294) (i := 14) dL_acts_292 rfl rfl ?_
      refine z_aload_n (q := 295) dL_acts_294 rfl rfl rfl ?_
      refine z_iconst (q := 296) (v := nI 1) dL_acts_295 (by rfl) rfl ?_
      refine z_ialdV (q := 297) _ (by with_reducible assumption) (rfl) (by omega) (by decide) (g1') dL_acts_296 rfl ?_
      refine z_icmpn_ge (rfl) (rfl) (by omega) (by omega) (tgt := 352) (q := 300) dL_acts_297 (by decide) rfl (fun _ => ?_) (fun hc => absurd hc (by omega))
      exact kk I2 hu hf _ rfl
    · intro i hi ih I2 hu hf ls hls
      have g1' : I2 b 1 = nI nd := by rw [hf b (by omega)]; exact g1
      obtain ⟨da, dc, ar', sp, de, o, tt, l, ⟨q1, q1'⟩, ⟨q2, q2'⟩, q3, ⟨q4, q4'⟩, -⟩ := (hI.2.2.2.2.2.1 i (by omega)).1 hi
      have ha : I2 (b + 2) (10 * i) = nI da := by rw [hf _ (by omega), LW_d0 hL (by omega)]; exact q1
      have hc : I2 (b + 2) (10 * i + 1) = nI dc := by rw [hf _ (by omega), LW_d hL (by omega) (by decide)]; exact q2
      have har : I2 (b + 2) (10 * i + 2) = nI ar' := by rw [hf _ (by omega), LW_d hL (by omega) (by decide)]; exact q4
      have hN : ∀ r, arN g r (i + 1) = arN g r i + if da = r ∨ dc = r then ar' else 0 := fun r => by
        rw [← gN_of q1 (by omega), ← gN_of q2 (by omega), ← gN_of q4 (by omega)]
        rfl
      have hc1 : zw I2 u da (I2 u da + nI ar') (b + 2) (10 * i + 1) = nI dc := by rw [zw_row _ _ (by omega)]; exact hc
      have har1 : zw I2 u da (I2 u da + nI ar') (b + 2) (10 * i + 2) = nI ar' := by rw [zw_row _ _ (by omega)]; exact har
      refine z_pick [0, 1, 2, 3, 4, 5, 6, 7, 8, 9, 10, 11, 12, 13, 14] hls ?_
      refine z_iload (q := 294) (i := 14) dL_acts_292 rfl rfl ?_
      refine z_aload_n (q := 295) dL_acts_294 rfl rfl rfl ?_
      refine z_iconst (q := 296) (v := nI 1) dL_acts_295 (by rfl) rfl ?_
      refine z_ialdV (q := 297) _ (by with_reducible assumption) (rfl) (by omega) (by decide) (g1') dL_acts_296 rfl ?_
      refine z_icmpn_ge (rfl) (rfl) (by omega) (by omega) (tgt := 352) (q := 300) dL_acts_297 (by decide) rfl (fun hc => absurd hc (by omega)) (fun _ => ?_)
      refine z_aload (q := 302) dL_acts_300 rfl rfl ?_
      refine z_aload_n (q := 303) dL_acts_302 rfl rfl rfl ?_
      refine z_bipush (q := 305) (v := nI 10) dL_acts_303 (by rfl) rfl ?_
      refine z_iload (q := 307) (i := 14) dL_acts_305 rfl rfl ?_
      refine z_imulE (q := 308) dL_acts_307 (pk_mul _ _) rfl ?_
      refine z_ialdV (q := 309) _ (by with_reducible assumption) (rfl) (by omega) (by decide) (ha) dL_acts_308 rfl ?_
      refine z_dup2 (q := 310) dL_acts_309 rfl rfl rfl ?_
      refine z_iald (q := 311) _ (by with_reducible assumption) (rfl) (by omega) (by decide) dL_acts_310 rfl ?_
      refine z_aload_n (q := 312) dL_acts_311 rfl rfl rfl ?_
      refine z_bipush (q := 314) (v := nI 10) dL_acts_312 (by rfl) rfl ?_
      refine z_iload (q := 316) (i := 14) dL_acts_314 rfl rfl ?_
      refine z_imulE (q := 317) dL_acts_316 (pk_mul _ _) rfl ?_
      refine z_iconst (q := 318) (v := nI 2) dL_acts_317 (by rfl) rfl ?_
      refine z_iaddE (q := 319) dL_acts_318 (nI_add _ _) rfl ?_
      refine z_ialdV (q := 320) _ (by with_reducible assumption) (rfl) (by omega) (by decide) (har) dL_acts_319 rfl ?_
      refine z_iadd (q := 321) dL_acts_320 rfl ?_
      refine z_iast (q := 322) _ (by with_reducible assumption) (rfl) (by omega) (by decide) dL_acts_321 rfl ?_
      refine z_aload (q := 324) dL_acts_322 rfl rfl ?_
      refine z_aload_n (q := 325) dL_acts_324 rfl rfl rfl ?_
      refine z_bipush (q := 327) (v := nI 10) dL_acts_325 (by rfl) rfl ?_
      refine z_iload (q := 329) (i := 14) dL_acts_327 rfl rfl ?_
      refine z_imulE (q := 330) dL_acts_329 (pk_mul _ _) rfl ?_
      refine z_iconst (q := 331) (v := nI 1) dL_acts_330 (by rfl) rfl ?_
      refine z_iaddE (q := 332) dL_acts_331 (nI_add _ _) rfl ?_
      refine z_ialdV (q := 333) _ (by with_reducible assumption) (rfl) (by omega) (by decide) (hc1) dL_acts_332 rfl ?_
      refine z_dup2 (q := 334) dL_acts_333 rfl rfl rfl ?_
      refine z_iald (q := 335) _ (by with_reducible assumption) (rfl) (by omega) (by decide) dL_acts_334 rfl ?_
      refine z_aload_n (q := 336) dL_acts_335 rfl rfl rfl ?_
      refine z_bipush (q := 338) (v := nI 10) dL_acts_336 (by rfl) rfl ?_
      refine z_iload (q := 340) (i := 14) dL_acts_338 rfl rfl ?_
      refine z_imulE (q := 341) dL_acts_340 (pk_mul _ _) rfl ?_
      refine z_iconst (q := 342) (v := nI 2) dL_acts_341 (by rfl) rfl ?_
      refine z_iaddE (q := 343) dL_acts_342 (nI_add _ _) rfl ?_
      refine z_ialdV (q := 344) _ (by with_reducible assumption) (rfl) (by omega) (by decide) (har1) dL_acts_343 rfl ?_
      refine z_iadd (q := 345) dL_acts_344 rfl ?_
      refine z_iast (q := 346) _ (by with_reducible assumption) (rfl) (by omega) (by decide) dL_acts_345 rfl ?_
      refine z_iinc (q := 349) dL_acts_346 rfl (nI_add _ 1) (by decide) rfl ?_
      refine z_goto (q := 292) dL_acts_349 (by decide) ?_
      refine ih _ (fun r hr => ?_) (fun q hq => by rw [zw_row _ _ hq, zw_row _ _ hq]; exact hf q hq) _ rfl
      rw [hN r]
      by_cases e2 : r = dc
      · subst e2
        rw [zw_s, zw_k _ _ (by omega), hu r hr, if_pos (Or.inr rfl), nI_add]
      · rw [zw_k _ _ e2]
        by_cases e1 : r = da
        · subst e1
          rw [zw_s, hu r hr, if_pos (Or.inl rfl), nI_add]
        · rw [zw_k _ _ e1, hu r hr, if_neg (by omega), Nat.add_zero]
  intro ls hls
  refine z_pick [0, 1, 2, 3, 4, 5, 6, 7, 8, 9, 10, 11, 12, 13] hls ?_
  refine z_iconst (q := 290) (v := nI 0) dL_acts_289 (by rfl) rfl ?_
  refine z_istore (q := 292) dL_acts_290 (by decide) rfl ?_
  exact loop 0 (Nat.zero_le _) I (fun r hr => by rw [h0 r hr]; exact nI_0.symm) (fun _ _ => rfl) _ rfl
def newD (a c ar sp de : Nat) : Nat → Int32
  | 0 => nI a
  | 1 => nI c
  | 2 => nI ar
  | 3 => nI sp
  | 4 => nI de
  | _ => 0
def newS (g D : Nat → Int32) (nd j : Nat) : Nat → Int32 := fun k => if 57 + 10 * nd ≤ k ∧ k < 57 + 10 * nd + j then D (k - (57 + 10 * nd)) else g k
set_option maxRecDepth 100000 in
set_option maxHeartbeats 4000000 in
theorem act_newdoor {G : zG} {n n0 : Nat} {T : zTT} {I : zII} {R : zRR} (x b u nr nd np st Bu pc v y S2 B2 : Nat) (W : Int) (z : Int32) (g : Nat → Int32) (p : Nat → Nat → Int32) (hb : b = x + 595) (hT : LT T b) (hS : z_St T R I x g p pc (fun _ => 0) 0) (hL : LWP I b np g (planL g np)) (hH : PH nr nd np st Bu W g) (hn0 : n0 ≤ n) (hst : st ≤ 4000) (hv : v < 10000000) (hS2 : st ≤ S2) (hB2 : Bu ≤ B2) {a c ar : Nat} (hnd : nd < 4) (ha : a < nr) (hc : c < nr ∨ c = 8) (hac : a ≠ c) (har : 1 ≤ ar ∧ ar ≤ 1000) (hwa : arN g a nd + ar ≤ gN g (9 + 6 * a + 0)) (hwc : c < nr → arN g c nd + ar ≤ gN g (9 + 6 * c + 0)) (hsd : ∀ s d : Nat, 1 ≤ s → s ≤ 10 → d ≤ 5 → sp_door g (nI a) (nI c) (nI ar) (nI s) (nI d) = (nI nd, some (doorG g nd (nI a) (nI c) (nI ar) (nI s) (nI d)))) : ∀ ls : List (Nat × Value), lv_pick ls [0, 1, 2, 3, 4, 5, 6, 7, 8, 9, 10, 11, 12, 13] = [(0, .ref x), (1, .ref b), (2, .ref (b + 1)), (3, .ref (b + 2)), (4, .ref (b + 3)), (5, .ref (b + 4)), (6, .ref (b + 5)), (7, .int z), (8, .int (nI v)), (9, .int (nI y)), (10, .int (nI a)), (11, .int (nI c)), (12, .int (nI ar)), (13, .ref u)] → z_X G muL_acts (6, 6, 54) (actQ n0 T x b S2 B2) n T I R 1 9 493 ls [] := by
  have hTx := hS.1.1
  have hTg := hT.1
  have hTr := hT.2.1
  have hTd := hT.2.2.1
  have hTy := hT.2.2.2.1
  have hTp := hT.2.2.2.2.1
  have hI := hH.1
  obtain ⟨h4, h4', h8⟩ := hH.2.1
  have g0 : I b 0 = nI nr := by rw [hL.1 0 (by decide) (by decide)]; exact hI.1.1
  have g1 : I b 1 = nI nd := by rw [hL.1 1 (by decide) (by decide)]; exact hI.2.1.1
  have g2 : I b 2 = nI np := hL.2.1
  have g3 : I b 3 = nI st := by rw [hL.1 3 (by decide) (by decide)]; exact hI.2.2.2.1
  have hDR := (hI.2.2.2.2.2.1 nd (by omega)).2 (Nat.le_refl _)
  have hs : 1 ≤ 1 + v / 11 % 10 ∧ 1 + v / 11 % 10 ≤ 10 := by omega
  have hd : v / 13 % 6 ≤ 5 := by omega
  have hsd := hsd (1 + v / 11 % 10) (v / 13 % 6) hs.1 hs.2 hd
  have hH' := PH_door hH hnd ha hc hac har hs hd hwa hwc
  have ls2 : newD a c ar (1 + v / 11 % 10) (v / 13 % 6) 3 = nI (1 + v / 11 % 10) ∧ newD a c ar (1 + v / 11 % 10) (v / 13 % 6) 4 = nI (v / 13 % 6) := ⟨rfl, rfl⟩
  have lv : ∀ j, j < 10 → newD a c ar (1 + v / 11 % 10) (v / 13 % 6) j = if j = 0 then nI a else if j = 1 then nI c else if j = 2 then nI ar else if j = 3 then nI (1 + v / 11 % 10) else if j = 4 then nI (v / 13 % 6) else nI 0 := by
    intro j hj
    rcases (show j = 0 ∨ j = 1 ∨ j = 2 ∨ j = 3 ∨ j = 4 ∨ j = 5 ∨ j = 6 ∨ j = 7 ∨ j = 8 ∨ j = 9 by omega) with rfl | rfl | rfl | rfl | rfl | rfl | rfl | rfl | rfl | rfl <;> first | rfl | exact nI_0.symm
  have hsw : ∀ k, k < 321 → k ≠ 1 → newS g (newD a c ar (1 + v / 11 % 10) (v / 13 % 6)) nd 10 k = doorG g nd (nI a) (nI c) (nI ar) (nI (1 + v / 11 % 10)) (nI (v / 13 % 6)) k := by
    intro k hk k1
    rw [doorG_e hI (by omega), upd_n _ _ k1, newS]
    by_cases hin : 57 + 10 * nd ≤ k ∧ k < 57 + 10 * nd + 10
    · rw [if_pos hin]
      obtain ⟨j, hj, rfl⟩ : ∃ j, j < 10 ∧ k = 57 + 10 * nd + j := ⟨k - (57 + 10 * nd), by omega, by omega⟩
      rw [show 57 + 10 * nd + j - (57 + 10 * nd) = j by omega]
      rcases (show j = 0 ∨ j = 1 ∨ j = 2 ∨ j = 3 ∨ j = 4 ∨ 5 ≤ j by omega) with rfl | rfl | rfl | rfl | rfl | h5
      · rw [upd_n _ _ (by omega), upd_n _ _ (by omega), upd_n _ _ (by omega), upd_n _ _ (by omega), upd_s]; rfl
      · rw [upd_n _ _ (by omega), upd_n _ _ (by omega), upd_n _ _ (by omega), upd_s]; rfl
      · rw [upd_n _ _ (by omega), upd_n _ _ (by omega), upd_s]; rfl
      · rw [upd_n _ _ (by omega), upd_s]; rfl
      · rw [upd_s]; rfl
      · rw [upd_n _ _ (by omega), upd_n _ _ (by omega), upd_n _ _ (by omega), upd_n _ _ (by omega), upd_n _ _ (by omega), hDR.1 j hj, lv j hj, if_neg (by omega), if_neg (by omega), if_neg (by omega), if_neg (by omega), if_neg (by omega)]
        exact nI_0
    · rw [if_neg hin, upd_n _ _ (by omega), upd_n _ _ (by omega), upd_n _ _ (by omega), upd_n _ _ (by omega), upd_n _ _ (by omega)]
  have hpl : planL (doorG g nd (nI a) (nI c) (nI ar) (nI (1 + v / 11 % 10)) (nI (v / 13 % 6))) np = planL g np := planL_congr (fun k hk => ent_congr (fun j j1 j2 => by rw [doorG_e hI (by omega), upd_n _ _ (by omega), upd_n _ _ (by omega), upd_n _ _ (by omega), upd_n _ _ (by omega), upd_n _ _ (by omega), upd_n _ _ (by omega)]))
  generalize newD a c ar (1 + v / 11 % 10) (v / 13 % 6) = D at lv hsw ls2
  -- the ways
  have ways : ∀ j, j ≤ 12 → ∀ I2 : zII, LWP I2 b np (newS g D nd 10) (planL g np) → (∀ q, q ≠ b + 2 → q ≠ b + 3 → I2 q = I q) → I2 (b + 2) (10 * nd + 3) = nI (1 + v / 11 % 10) → I2 (b + 2) (10 * nd + 4) = nI (v / 13 % 6) → ∀ ls : List (Nat × Value), lv_pick ls [0, 1, 2, 3, 4, 5, 6, 7, 8, 9, 10, 11, 12, 13, 14, 15] = [(0, .ref x), (1, .ref b), (2, .ref (b + 1)), (3, .ref (b + 2)), (4, .ref (b + 3)), (5, .ref (b + 4)), (6, .ref (b + 5)), (7, .int z), (8, .int (nI v)), (9, .int (nI y)), (10, .int (nI a)), (11, .int (nI c)), (12, .int (nI ar)), (13, .ref u), (14, .int (nI (10 * nd))), (15, .int (nI j))] → z_X G muL_acts (6, 6, 54) (actQ n0 T x b S2 B2) n T I2 R 1 9 596 ls [] := by
    refine z_up (N := 12) _ ?_ ?_
    · intro I2 hL2 hf e3 e4 ls hls
      have g1' : I2 b 1 = nI nd := by rw [hf b (by omega) (by omega)]; exact g1
      have l3 := LP_g hL2 (c := 1) (nI (nd + 1)) (by decide) (by decide)
      have l4 : LWP (zw I2 b 1 (nI (nd + 1))) b np (doorG g nd (nI a) (nI c) (nI ar) (nI (1 + v / 11 % 10)) (nI (v / 13 % 6))) (planL g np) := LP_s l3 (fun k hk k2 => by
        by_cases k1 : k = 1
        · rw [k1, upd_s, doorG_e hI (by omega), upd_s]
        · rw [upd_n _ _ k1, hsw k hk k1])
      have s1 : z_St T R (zw I2 b 1 (nI (nd + 1))) x g p pc (fun _ => 0) 0 := St_f hS (fun q j1 j2 => ⟨(zw_row _ _ (by omega)).trans (hf q (by omega) (by omega)), rfl⟩)
      have e3' : zw I2 b 1 (nI (nd + 1)) (b + 2) (10 * nd + 3) = nI (1 + v / 11 % 10) := by rw [zw_row _ _ (by omega)]; exact e3
      have e4' : zw I2 b 1 (nI (nd + 1)) (b + 2) (10 * nd + 4) = nI (v / 13 % 6) := by rw [zw_row _ _ (by omega)]; exact e4
      have hg1n : zw I2 b 1 (nI (nd + 1)) b 1 = nI (nd + 1) := zw_s _ _ _ _
      refine z_pick [0, 1, 2, 3, 4, 5, 6, 7, 8, 9, 10, 11, 12, 13, 14, 15] hls ?_
      refine z_iload (q := 598) (i := 15) dL_acts_596 rfl rfl ?_
      refine z_bipush (q := 600) (v := nI 12) dL_acts_598 (by rfl) rfl ?_
      refine z_icmpn_ge (rfl) (rfl) (by omega) (by omega) (tgt := 622) (q := 603) dL_acts_600 (by decide) rfl (fun _ => ?_) (fun hc => absurd hc (by omega))
      refine z_aload_n (q := 623) dL_acts_622 rfl rfl rfl ?_
      refine z_iconst (q := 624) (v := nI 1) dL_acts_623 (by rfl) rfl ?_
      refine z_dup2 (q := 625) dL_acts_624 rfl rfl rfl ?_
      refine z_ialdV (q := 626) _ (by with_reducible assumption) (rfl) (by omega) (by decide) (g1') dL_acts_625 rfl ?_
      refine z_iconst (q := 627) (v := nI 1) dL_acts_626 (by rfl) rfl ?_
      refine z_iaddE (q := 628) dL_acts_627 (nI_add _ _) rfl ?_
      refine z_iast (q := 629) _ (by with_reducible assumption) (rfl) (by omega) (by decide) dL_acts_628 rfl ?_
      generalize zw I2 b 1 (nI (nd + 1)) = I3 at l4 s1 e3' e4' hg1n
      refine z_aload_n (q := 630) dL_acts_629 rfl rfl rfl ?_
      refine z_iload (q := 632) (i := 10) dL_acts_630 rfl rfl ?_
      refine z_iload (q := 634) (i := 11) dL_acts_632 rfl rfl ?_
      refine z_iload (q := 636) (i := 12) dL_acts_634 rfl rfl ?_
      refine z_aload_n (q := 637) dL_acts_636 rfl rfl rfl ?_
      refine z_iload (q := 639) (i := 14) dL_acts_637 rfl rfl ?_
      refine z_iconst (q := 640) (v := nI 3) dL_acts_639 (by rfl) rfl ?_
      refine z_iaddE (q := 641) dL_acts_640 (nI_add _ _) rfl ?_
      refine z_ialdV (q := 642) _ (by with_reducible assumption) (rfl) (by omega) (by decide) (e3') dL_acts_641 rfl ?_
      refine z_aload_n (q := 643) dL_acts_642 rfl rfl rfl ?_
      refine z_iload (q := 645) (i := 14) dL_acts_643 rfl rfl ?_
      refine z_iconst (q := 646) (v := nI 4) dL_acts_645 (by rfl) rfl ?_
      refine z_iaddE (q := 647) dL_acts_646 (nI_add _ _) rfl ?_
      refine z_ialdV (q := 648) _ (by with_reducible assumption) (rfl) (by omega) (by decide) (e4') dL_acts_647 rfl ?_
      refine z_invV (q := 651) (call_some (c_X7_door G x pc 0 g (fun _ => 0) p s1 (nI a) (nI c) (nI ar) (nI (1 + v / 11 % 10)) (nI (v / 13 % 6))) hsd) (by with_reducible assumption) rfl gL_acts_X7_door rfl hy_X7_door rfl rfl rfl rfl (Nat.le_of_ble_eq_true rfl) (by decide) dL_acts_648 rfl (z_rvR fun I4 R4 hZ => ?_)
      obtain ⟨hSa, hfa⟩ := hZ
      have l5 := LP_x hb l4 hfa
      rw [← hpl] at l5
      have g1'' : I4 b 1 = nI (nd + 1) := by rw [(hfa b (Or.inr (by omega))).1]; exact hg1n
      refine z_aload_n (q := 652) dL_acts_651 rfl rfl rfl ?_
      refine z_iconst (q := 653) (v := nI 1) dL_acts_652 (by rfl) rfl ?_
      refine z_ialdV (q := 654) _ (by with_reducible assumption) (rfl) (by omega) (by decide) (g1'') dL_acts_653 rfl ?_
      refine z_iconst (q := 655) (v := nI 1) dL_acts_654 (by rfl) rfl ?_
      refine z_isubE (q := 656) dL_acts_655 (pk_sub (by omega)) rfl ?_
      refine z_icmp_ne (tgt := 663) (q := 659) dL_acts_656 (by decide) rfl (fun hc => False.elim (hc rfl)) (fun _ => ?_)
      refine z_iconst (q := 660) (v := nI 1) dL_acts_659 (by rfl) rfl ?_
      refine z_goto (q := 664) dL_acts_660 (by decide) ?_
      exact z_zret rfl (by rfl) dL_acts_664 (by decide) (by decide) (⟨by rw [zI1], hn0, rfl, _, _, _, nr, nd + 1, np, st, W, hSa, l5, PH_mono hH' hB2, hS2⟩)
    · intro j hj ih I2 hL2 hf e3 e4 ls hls
      have g1' : I2 b 1 = nI nd := by rw [hf b (by omega) (by omega)]; exact g1
      refine z_pick [0, 1, 2, 3, 4, 5, 6, 7, 8, 9, 10, 11, 12, 13, 14, 15] hls ?_
      refine z_iload (q := 598) (i := 15) dL_acts_596 rfl rfl ?_
      refine z_bipush (q := 600) (v := nI 12) dL_acts_598 (by rfl) rfl ?_
      refine z_icmpn_ge (rfl) (rfl) (by omega) (by omega) (tgt := 622) (q := 603) dL_acts_600 (by decide) rfl (fun hc => absurd hc (by omega)) (fun _ => ?_)
      refine z_aload (q := 605) dL_acts_603 rfl rfl ?_
      refine z_bipush (q := 607) (v := nI 12) dL_acts_605 (by rfl) rfl ?_
      refine z_aload_n (q := 608) dL_acts_607 rfl rfl rfl ?_
      refine z_iconst (q := 609) (v := nI 1) dL_acts_608 (by rfl) rfl ?_
      refine z_ialdV (q := 610) _ (by with_reducible assumption) (rfl) (by omega) (by decide) (g1') dL_acts_609 rfl ?_
      refine z_imulE (q := 611) dL_acts_610 (pk_mul _ _) rfl ?_
      refine z_iload (q := 613) (i := 15) dL_acts_611 rfl rfl ?_
      refine z_iaddE (q := 614) dL_acts_613 (nI_add _ _) rfl ?_
      refine z_iconst (q := 615) (v := nI 0) dL_acts_614 (by rfl) rfl ?_
      refine z_iast (q := 616) _ (by with_reducible assumption) (rfl) (by omega) (by decide) dL_acts_615 rfl ?_
      refine z_iinc (q := 619) dL_acts_616 rfl (nI_add _ 1) (by decide) rfl ?_
      refine z_goto (q := 596) dL_acts_619 (by decide) ?_
      have l3 := LP_y hL2 (c := 12 * nd + j) (nI 0) (by omega)
      refine ih _ (LP_s l3 (fun k hk k2 => ?_)) (fun q q1 q2 => by rw [zw_row _ _ q2]; exact hf q q1 q2) (by rw [zw_row _ _ (by omega)]; exact e3) (by rw [zw_row _ _ (by omega)]; exact e4) _ rfl
      by_cases e : k = 177 + (12 * nd + j)
      · rw [e, upd_s, newS, if_neg (by omega), ← Nat.add_assoc, hDR.2 j hj]
        exact nI_0.symm
      · rw [upd_n _ _ e]
  -- the door's numbers
  have nums : ∀ j, j ≤ 10 → ∀ I2 : zII, LWP I2 b np (newS g D nd j) (planL g np) → (∀ q, q ≠ b + 2 → I2 q = I q) → ∀ ls : List (Nat × Value), lv_pick ls [0, 1, 2, 3, 4, 5, 6, 7, 8, 9, 10, 11, 12, 13, 14, 15] = [(0, .ref x), (1, .ref b), (2, .ref (b + 1)), (3, .ref (b + 2)), (4, .ref (b + 3)), (5, .ref (b + 4)), (6, .ref (b + 5)), (7, .int z), (8, .int (nI v)), (9, .int (nI y)), (10, .int (nI a)), (11, .int (nI c)), (12, .int (nI ar)), (13, .ref u), (14, .int (nI (10 * nd))), (15, .int (nI j))] → z_X G muL_acts (6, 6, 54) (actQ n0 T x b S2 B2) n T I2 R 1 9 504 ls [] := by
    refine z_up (N := 10) _ ?_ ?_
    · intro I2 hL2 hf ls hls
      have e3 : I2 (b + 2) (10 * nd + 3) = nI (1 + v / 11 % 10) := by
        rw [hL2.2.2.2.1 _ (by omega), newS, if_pos (by omega), show 57 + (10 * nd + 3) - (57 + 10 * nd) = 3 by omega]
        exact ls2.1
      have e4 : I2 (b + 2) (10 * nd + 4) = nI (v / 13 % 6) := by
        rw [hL2.2.2.2.1 _ (by omega), newS, if_pos (by omega), show 57 + (10 * nd + 4) - (57 + 10 * nd) = 4 by omega]
        exact ls2.2
      refine z_pick [0, 1, 2, 3, 4, 5, 6, 7, 8, 9, 10, 11, 12, 13, 14, 15] hls ?_
      refine z_iload (q := 506) (i := 15) dL_acts_504 rfl rfl ?_
      refine z_bipush (q := 508) (v := nI 10) dL_acts_506 (by rfl) rfl ?_
      refine z_icmpn_ge (rfl) (rfl) (by omega) (by omega) (tgt := 593) (q := 511) dL_acts_508 (by decide) rfl (fun _ => ?_) (fun hc => absurd hc (by omega))
      refine z_iconst (q := 594) (v := nI 0) dL_acts_593 (by rfl) rfl ?_
      refine z_istore (q := 596) dL_acts_594 (by decide) rfl ?_
      exact ways 0 (Nat.zero_le _) I2 hL2 (fun q q1 _ => hf q q1) e3 e4 _ rfl
    · intro j hj ih I2 hL2 hf ls hls
      have next : ∀ w : Int32, w = D j → ∀ ls : List (Nat × Value), lv_pick ls [0, 1, 2, 3, 4, 5, 6, 7, 8, 9, 10, 11, 12, 13, 14, 15] = [(0, .ref x), (1, .ref b), (2, .ref (b + 1)), (3, .ref (b + 2)), (4, .ref (b + 3)), (5, .ref (b + 4)), (6, .ref (b + 5)), (7, .int z), (8, .int (nI v)), (9, .int (nI y)), (10, .int (nI a)), (11, .int (nI c)), (12, .int (nI ar)), (13, .ref u), (14, .int (nI (10 * nd))), (15, .int (nI j))] → z_X G muL_acts (6, 6, 54) (actQ n0 T x b S2 B2) n T I2 R 1 9 586 ls [.int w, .int (nI (10 * nd + j)), .ref (b + 2)] := by
        intro w hw ls hls
        refine z_pick [0, 1, 2, 3, 4, 5, 6, 7, 8, 9, 10, 11, 12, 13, 14, 15] hls ?_
        refine z_iast (q := 587) _ (by with_reducible assumption) (rfl) (by omega) (by decide) dL_acts_586 rfl ?_
        refine z_iinc (q := 590) dL_acts_587 rfl (nI_add _ 1) (by decide) rfl ?_
        refine z_goto (q := 504) dL_acts_590 (by decide) ?_
        have l3 := LP_d hL2 (c := 10 * nd + j) w (by omega)
        refine ih _ (LP_s l3 (fun k hk k2 => ?_)) (fun q q1 => by rw [zw_row _ _ q1]; exact hf q q1) _ rfl
        by_cases e : k = 57 + (10 * nd + j)
        · rw [e, upd_s, newS, if_pos (by omega), hw, show 57 + (10 * nd + j) - (57 + 10 * nd) = j by omega]
        · rw [upd_n _ _ e, newS, newS]
          by_cases e2 : 57 + 10 * nd ≤ k ∧ k < 57 + 10 * nd + j
          · rw [if_pos e2, if_pos (by omega)]
          · rw [if_neg e2, if_neg (by omega)]
      have lj := lv j hj
      refine z_pick [0, 1, 2, 3, 4, 5, 6, 7, 8, 9, 10, 11, 12, 13, 14, 15] hls ?_
      refine z_iload (q := 506) (i := 15) dL_acts_504 rfl rfl ?_
      refine z_bipush (q := 508) (v := nI 10) dL_acts_506 (by rfl) rfl ?_
      refine z_icmpn_ge (rfl) (rfl) (by omega) (by omega) (tgt := 593) (q := 511) dL_acts_508 (by decide) rfl (fun hc => absurd hc (by omega)) (fun _ => ?_)
      refine z_aload_n (q := 512) dL_acts_511 rfl rfl rfl ?_
      refine z_iload (q := 514) (i := 14) dL_acts_512 rfl rfl ?_
      refine z_iload (q := 516) (i := 15) dL_acts_514 rfl rfl ?_
      refine z_iaddE (q := 517) dL_acts_516 (nI_add _ _) rfl ?_
      refine z_iload (q := 519) (i := 15) dL_acts_517 rfl rfl ?_
      refine z_if_ne (tgt := 527) (q := 522) dL_acts_519 (by decide) rfl (fun h519 => ?_) (fun h519 => ?_)
      · have j0 : ¬ j = 0 := fun e => h519 (by rw [e]; exact nI_0)
        rw [if_neg j0] at lj
        refine z_iload (q := 529) (i := 15) dL_acts_527 rfl rfl ?_
        refine z_iconst (q := 530) (v := nI 1) dL_acts_529 (by rfl) rfl ?_
        refine z_icmpn_ne (rfl) (rfl) (by omega) (by omega) (tgt := 538) (q := 533) dL_acts_530 (by decide) rfl (fun h530 => ?_) (fun h530 => ?_)
        · rw [if_neg h530] at lj
          refine z_iload (q := 540) (i := 15) dL_acts_538 rfl rfl ?_
          refine z_iconst (q := 541) (v := nI 2) dL_acts_540 (by rfl) rfl ?_
          refine z_icmpn_ne (rfl) (rfl) (by omega) (by omega) (tgt := 549) (q := 544) dL_acts_541 (by decide) rfl (fun h541 => ?_) (fun h541 => ?_)
          · rw [if_neg h541] at lj
            refine z_iload (q := 551) (i := 15) dL_acts_549 rfl rfl ?_
            refine z_iconst (q := 552) (v := nI 3) dL_acts_551 (by rfl) rfl ?_
            refine z_icmpn_ne (rfl) (rfl) (by omega) (by omega) (tgt := 568) (q := 555) dL_acts_552 (by decide) rfl (fun h552 => ?_) (fun h552 => ?_)
            · rw [if_neg h552] at lj
              refine z_iload (q := 570) (i := 15) dL_acts_568 rfl rfl ?_
              refine z_iconst (q := 571) (v := nI 4) dL_acts_570 (by rfl) rfl ?_
              refine z_icmpn_ne (rfl) (rfl) (by omega) (by omega) (tgt := 585) (q := 574) dL_acts_571 (by decide) rfl (fun h571 => ?_) (fun h571 => ?_)
              · rw [if_neg h571] at lj
                refine z_iconst (q := 586) (v := nI 0) dL_acts_585 (by rfl) rfl ?_
                exact next _ lj.symm _ rfl
              · rw [if_pos h571] at lj
                refine z_iload (q := 576) (i := 8) dL_acts_574 rfl rfl ?_
                refine z_bipush (q := 578) (v := nI 13) dL_acts_576 (by rfl) rfl ?_
                refine z_idivE (q := 579) dL_acts_578 (by decide) (pk_div (by omega) (by decide) (by decide)) rfl ?_
                refine z_bipush (q := 581) (v := nI 6) dL_acts_579 (by rfl) rfl ?_
                refine z_iremE (q := 582) dL_acts_581 (by decide) (pk_rem (by omega) (by decide) (by decide)) rfl ?_
                refine z_goto (q := 586) dL_acts_582 (by decide) ?_
                exact next _ lj.symm _ rfl
            · rw [if_pos h552] at lj
              refine z_iconst (q := 556) (v := nI 1) dL_acts_555 (by rfl) rfl ?_
              refine z_iload (q := 558) (i := 8) dL_acts_556 rfl rfl ?_
              refine z_bipush (q := 560) (v := nI 11) dL_acts_558 (by rfl) rfl ?_
              refine z_idivE (q := 561) dL_acts_560 (by decide) (pk_div (by omega) (by decide) (by decide)) rfl ?_
              refine z_bipush (q := 563) (v := nI 10) dL_acts_561 (by rfl) rfl ?_
              refine z_iremE (q := 564) dL_acts_563 (by decide) (pk_rem (by omega) (by decide) (by decide)) rfl ?_
              refine z_iaddE (q := 565) dL_acts_564 (nI_add _ _) rfl ?_
              refine z_goto (q := 586) dL_acts_565 (by decide) ?_
              exact next _ lj.symm _ rfl
          · rw [if_pos h541] at lj
            refine z_iload (q := 546) (i := 12) dL_acts_544 rfl rfl ?_
            refine z_goto (q := 586) dL_acts_546 (by decide) ?_
            exact next _ lj.symm _ rfl
        · rw [if_pos h530] at lj
          refine z_iload (q := 535) (i := 11) dL_acts_533 rfl rfl ?_
          refine z_goto (q := 586) dL_acts_535 (by decide) ?_
          exact next _ lj.symm _ rfl
      · have j0 : j = 0 := by
          rcases Nat.eq_zero_or_pos j with e | e
          · exact e
          · exact absurd h519 (nI_ne0 e (by omega))
        rw [if_pos j0] at lj
        refine z_iload (q := 524) (i := 10) dL_acts_522 rfl rfl ?_
        refine z_goto (q := 586) dL_acts_524 (by decide) ?_
        exact next _ lj.symm _ rfl
  intro ls hls
  refine z_pick [0, 1, 2, 3, 4, 5, 6, 7, 8, 9, 10, 11, 12, 13] hls ?_
  refine z_bipush (q := 495) (v := nI 10) dL_acts_493 (by rfl) rfl ?_
  refine z_aload_n (q := 496) dL_acts_495 rfl rfl rfl ?_
  refine z_iconst (q := 497) (v := nI 1) dL_acts_496 (by rfl) rfl ?_
  refine z_ialdV (q := 498) _ (by with_reducible assumption) (rfl) (by omega) (by decide) (g1) dL_acts_497 rfl ?_
  refine z_imulE (q := 499) dL_acts_498 (pk_mul _ _) rfl ?_
  refine z_istore (q := 501) dL_acts_499 (by decide) rfl ?_
  refine z_iconst (q := 502) (v := nI 0) dL_acts_501 (by rfl) rfl ?_
  refine z_istore (q := 504) dL_acts_502 (by decide) rfl ?_
  refine nums 0 (Nat.zero_le _) I (LP_s hL (fun k _ _ => ?_)) (fun _ _ => rfl) _ rfl
  rw [newS, if_neg (by omega)]

