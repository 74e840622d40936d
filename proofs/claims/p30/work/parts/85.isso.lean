/-! THE LAW's isSo: all that the object tells stands in the law's own house; what was given is somewhere -/
theorem zsm_split (f : Nat → Int) (m : Nat) : ∀ n, zsm f (m + n) = zsm f m + zsm (fun i => f (m + i)) n
  | 0 => by rw [Nat.add_zero, zsm]; omega
  | n + 1 => by
    rw [← Nat.add_assoc, zsm, zsm, zsm_split f m n]
    omega
theorem zsm_block (f : Nat → Int) (k : Nat) : ∀ n, zsm f (k * n) = zsm (fun i => zsm (fun j => f (k * i + j)) k) n
  | 0 => rfl
  | n + 1 => by rw [Nat.mul_succ, zsm_split f (k * n) k, zsm_block f k n, zsm]
theorem zsm_0 {f : Nat → Int} : ∀ {n : Nat}, (∀ i, i < n → f i = 0) → zsm f n = 0
  | 0, _ => rfl
  | n + 1, e => by
    rw [zsm, zsm_0 (fun i hi => e i (by omega)), e n (by omega)]
    rfl
theorem zsm_cut {f : Nat → Int} {m N : Nat} (h : m ≤ N) (hz : ∀ i, m ≤ i → i < N → f i = 0) : zsm f N = zsm f m := by
  have h1 := zsm_split f m (N - m)
  rw [show m + (N - m) = N by omega, zsm_0 (f := fun i => f (m + i)) (fun i hi => hz (m + i) (by omega) (by omega))] at h1
  omega
theorem zsm_I (h : Nat → Int32) : ∀ n, Int32.ofInt (zsm (fun i => (h i).toInt) n) = sumI h n
  | 0 => rfl
  | n + 1 => by rw [zsm, Int32.ofInt_add, zsm_I h n, Int32.ofInt_toInt, sumI_s]
theorem zsm_add (f h : Nat → Int) : ∀ n, zsm (fun i => f i + h i) n = zsm f n + zsm h n
  | 0 => rfl
  | n + 1 => by rw [zsm, zsm, zsm, zsm_add f h n]; omega
theorem psm_e (g : Nat → Int32) : psm g = (g 4).toInt + (zsm (fun r => (g (9 + 6 * r + 2)).toInt) 8 + zsm (fun r => (g (9 + 6 * r + 3)).toInt) 8) + zsm (fun d => zsm (fun j => (g (177 + 12 * d + j)).toInt) 12) 12 := by
  have s1 : psm g = zsm (pF g) (177 + 144) := rfl
  have s2 : zsm (pF g) 177 = zsm (pF g) (57 + 120) := rfl
  have s3 : zsm (pF g) 57 = zsm (pF g) (9 + 48) := rfl
  have a1 : zsm (pF g) 9 = (g 4).toInt := by
    have e : ∀ c, c < 9 → pF g c = if c = 4 then (g 4).toInt else 0 := fun c hc => by
      by_cases h : c = 4
      · rw [if_pos h, h, pF_p pos_4]
      · rw [if_neg h, pF_n (fun z => by unfold posC at z; omega)]
    rw [zsm_congr e]
    show 0 + 0 + 0 + 0 + 0 + (g 4).toInt + 0 + 0 + 0 + 0 = _
    omega
  have a2 : zsm (fun i => pF g (9 + i)) 48 = zsm (fun r => (g (9 + 6 * r + 2)).toInt) 8 + zsm (fun r => (g (9 + 6 * r + 3)).toInt) 8 := by
    rw [show (48 : Nat) = 6 * 8 from rfl, zsm_block, ← zsm_add]
    refine zsm_congr (fun r hr => ?_)
    have e : ∀ j, j < 6 → pF g (9 + (6 * r + j)) = if j = 2 then (g (9 + 6 * r + 2)).toInt else if j = 3 then (g (9 + 6 * r + 3)).toInt else 0 := fun j hj => by
      rw [← Nat.add_assoc]
      by_cases h : j = 2
      · rw [if_pos h, h, pF_p (pos_e hr)]
      · rw [if_neg h]
        by_cases h' : j = 3
        · rw [if_pos h', h', pF_p (pos_a hr)]
        · rw [if_neg h', pF_n (fun z => by unfold posC at z; omega)]
    rw [zsm_congr e]
    show 0 + 0 + 0 + (g (9 + 6 * r + 2)).toInt + (g (9 + 6 * r + 3)).toInt + 0 + 0 = _
    omega
  have a3 : zsm (fun i => pF g (57 + i)) 120 = 0 := zsm_0 (fun i hi => pF_n (fun z => by unfold posC at z; omega))
  have a4 : zsm (fun i => pF g (177 + i)) 144 = zsm (fun d => zsm (fun j => (g (177 + 12 * d + j)).toInt) 12) 12 := by
    rw [show (144 : Nat) = 12 * 12 from rfl, zsm_block]
    refine zsm_congr (fun d hd => zsm_congr (fun j hj => ?_))
    rw [← Nat.add_assoc, pF_p (pos_w (by omega) (by omega))]
  rw [s1, zsm_split, s2, zsm_split, s3, zsm_split, a1, a2, a3, a4]
  omega
theorem gsm_e (g : Nat → Int32) : gsm g = zsm (fun r => (g (9 + 6 * r + 4)).toInt) 8 := by
  have s1 : gsm g = zsm (gF g) (57 + 264) := rfl
  have s3 : zsm (gF g) 57 = zsm (gF g) (9 + 48) := rfl
  have a1 : zsm (gF g) 9 = 0 := zsm_0 (fun i hi => gF_n (fun z => by unfold gvC at z; omega))
  have a2 : zsm (fun i => gF g (9 + i)) 48 = zsm (fun r => (g (9 + 6 * r + 4)).toInt) 8 := by
    rw [show (48 : Nat) = 6 * 8 from rfl, zsm_block]
    refine zsm_congr (fun r hr => ?_)
    have e : ∀ j, j < 6 → gF g (9 + (6 * r + j)) = if j = 4 then (g (9 + 6 * r + 4)).toInt else 0 := fun j hj => by
      rw [← Nat.add_assoc]
      by_cases h : j = 4
      · rw [if_pos h, h, gF_p (gv_r hr)]
      · rw [if_neg h, gF_n (fun z => by unfold gvC at z; omega)]
    rw [zsm_congr e]
    show 0 + 0 + 0 + 0 + 0 + (g (9 + 6 * r + 4)).toInt + 0 = _
    omega
  have a3 : zsm (fun i => gF g (57 + i)) 264 = 0 := zsm_0 (fun i hi => gF_n (fun z => by unfold gvC at z; omega))
  rw [s1, zsm_split, s3, zsm_split, a1, a2, a3]
  omega
/-- what sounds gave is in rooms, on its way, absorbed, or escaped -/
theorem all_so {nr nd np st : Nat} {W : Int} {g : Nat → Int32} (hI : INV nr nd np st g) (hP : PB W g) : sumI (fun r => g (9 + 6 * r + 2)) nr + sumI (fun d => sumI (fun j => g (177 + 12 * d + j)) 12) nd + sumI (fun r => g (9 + 6 * r + 3)) nr + g 4 = sumI (fun r => g (9 + 6 * r + 4)) nr := by
  have hnr := hI.1.2
  have hnd := hI.2.1.2
  have z0 : (0 : Int32).toInt = 0 := by decide
  have cr : ∀ w, w < 6 → zsm (fun r => (g (9 + 6 * r + w)).toInt) 8 = zsm (fun r => (g (9 + 6 * r + w)).toInt) nr := fun w hw => zsm_cut hnr (fun r h1 h2 => by
    show (g (9 + 6 * r + w)).toInt = 0
    rw [((hI.2.2.2.2.1 r h2).2 h1).1 w hw]; exact z0)
  have cd : zsm (fun d => zsm (fun j => (g (177 + 12 * d + j)).toInt) 12) 12 = zsm (fun d => zsm (fun j => (g (177 + 12 * d + j)).toInt) 12) nd := zsm_cut hnd (fun d h1 h2 => zsm_0 (fun j hj => by
    rw [((hI.2.2.2.2.2.1 d h2).2 h1).2 j hj]; exact z0))
  have wy : ∀ m, Int32.ofInt (zsm (fun d => zsm (fun j => (g (177 + 12 * d + j)).toInt) 12) m) = sumI (fun d => sumI (fun j => g (177 + 12 * d + j)) 12) m := by
    intro m
    induction m with
    | zero => rfl
    | succ m ih => rw [zsm, Int32.ofInt_add, ih, zsm_I (fun j => g (177 + 12 * m + j))]; rfl
  have e : psm g = gsm g := hP.2.1.trans hP.2.2.1.symm
  rw [psm_e, gsm_e, cr 2 (by decide), cr 3 (by decide), cr 4 (by decide), cd] at e
  have e2 := congrArg Int32.ofInt e
  rw [Int32.ofInt_add, Int32.ofInt_add, Int32.ofInt_add, Int32.ofInt_toInt, zsm_I (fun r => g (9 + 6 * r + 2)), zsm_I (fun r => g (9 + 6 * r + 3)), zsm_I (fun r => g (9 + 6 * r + 4)), wy] at e2
  rw [← e2]
  generalize sumI (fun r => g (9 + 6 * r + 2)) nr = A
  generalize sumI (fun r => g (9 + 6 * r + 3)) nr = C
  generalize sumI (fun d => sumI (fun j => g (177 + 12 * d + j)) 12) nd = D
  generalize g 4 = F
  rw [Int32.add_comm F (A + C), Int32.add_assoc (A + C) F D, Int32.add_assoc A C (F + D), Int32.add_assoc (A + D) C F, Int32.add_assoc A D (C + F), Int32.add_comm F D, ← Int32.add_assoc C D F, ← Int32.add_assoc D C F, Int32.add_comm C D]
theorem LW_pw {I : zII} {b np : Nat} {s g : Nat → Int32} (h : LWP I b np s (planL g np)) {k w : Nat} (hk : k < np) (hw : w < 5) : I (b + 4) (5 * k + w) = g (321 + 5 * k + w) := by
  have e := LW_ent h hk
  rcases (show w = 0 ∨ w = 1 ∨ w = 2 ∨ w = 3 ∨ w = 4 by omega) with rfl | rfl | rfl | rfl | rfl
  · exact congrArg (fun z : zE => z.1) e
  · exact congrArg (fun z : zE => z.2.1) e
  · exact congrArg (fun z : zE => z.2.2.1) e
  · exact congrArg (fun z : zE => z.2.2.2.1) e
  · exact congrArg (fun z : zE => z.2.2.2.2) e
set_option maxRecDepth 100000 in
set_option maxHeartbeats 4000000 in
theorem so_rooms {G : zG} {n : Nat} {T : zTT} {I : zII} {R : zRR} (x b nr nd np st Bu pc : Nat) (W : Int) (g : Nat → Int32) (p : Nat → Nat → Int32) (hT : LT T b) (hS : z_St T R I x g p pc (fun _ => 0) 0) (hL : LWP I b np g (planL g np)) (hH : PH nr nd np st Bu W g) (hst : st ≤ 5000) (kk : ∀ ls : List (Nat × Value), lv_pick ls [0, 1, 2, 3, 4, 5, 6, 7, 8, 9, 10, 11] = [(0, .ref x), (1, .ref b), (2, .ref (b + 1)), (3, .ref (b + 2)), (4, .ref (b + 3)), (5, .ref (b + 4)), (6, .int (sumI (fun r => g (9 + 6 * r + 2)) nr)), (7, .int (sumI (fun r => g (9 + 6 * r + 3)) nr)), (8, .int (sumI (fun r => g (9 + 6 * r + 4)) nr)), (9, .int (nI 0)), (10, .int (nI 1)), (11, .int (nI nr))] → z_X G muL_isSo (3, 0, 0) (z_ret (some (.int 1)) n T I R) n T I R 0 0 300 ls []) : z_X G muL_isSo (3, 0, 0) (z_ret (some (.int 1)) n T I R) n T I R 0 0 0 [(0, .ref x), (1, .ref b), (2, .ref (b + 1)), (3, .ref (b + 2)), (4, .ref (b + 3)), (5, .ref (b + 4))] [] := by
  have hTx := hS.1.1
  have hTg := hT.1
  have hTr := hT.2.1
  have hTd := hT.2.2.1
  have hTy := hT.2.2.2.1
  have hTp := hT.2.2.2.2.1
  have hI := hH.1
  have hPB := hH.2.2.2.2.1
  obtain ⟨h4, h4', h8⟩ := hH.2.1
  have g0 : I b 0 = nI nr := by rw [hL.1 0 (by decide) (by decide)]; exact hI.1.1
  have g1 : I b 1 = nI nd := by rw [hL.1 1 (by decide) (by decide)]; exact hI.2.1.1
  have g2 : I b 2 = nI np := hL.2.1
  have g3 : I b 3 = nI st := by rw [hL.1 3 (by decide) (by decide)]; exact hI.2.2.2.1
  have loop : ∀ i, i ≤ nr → ∀ ls : List (Nat × Value), lv_pick ls [0, 1, 2, 3, 4, 5, 6, 7, 8, 9, 10, 11] = [(0, .ref x), (1, .ref b), (2, .ref (b + 1)), (3, .ref (b + 2)), (4, .ref (b + 3)), (5, .ref (b + 4)), (6, .int (sumI (fun r => g (9 + 6 * r + 2)) i)), (7, .int (sumI (fun r => g (9 + 6 * r + 3)) i)), (8, .int (sumI (fun r => g (9 + 6 * r + 4)) i)), (9, .int (nI 0)), (10, .int (nI 1)), (11, .int (nI i))] → z_X G muL_isSo (3, 0, 0) (z_ret (some (.int 1)) n T I R) n T I R 0 0 18 ls [] := by
    refine z_up (N := nr) _ ?_ ?_
    · intro ls hls
      refine z_pick [0, 1, 2, 3, 4, 5, 6, 7, 8, 9, 10, 11] hls ?_
      refine z_iload (q := 20) (i := 11) dL_isSo_18 rfl rfl ?_
      refine z_aload_n (q := 21) dL_isSo_20 rfl rfl rfl ?_
      refine z_iconst (q := 22) (v := nI 0) dL_isSo_21 (by rfl) rfl ?_
      refine z_ialdV (q := 23) _ (by with_reducible assumption) (rfl) (by omega) (by decide) (g0) dL_isSo_22 rfl ?_
      refine z_icmpn_ge (rfl) (rfl) (by omega) (by omega) (tgt := 300) (q := 26) dL_isSo_23 (by decide) rfl (fun _ => ?_) (fun hc => absurd hc (by omega))
      exact kk _ rfl
    · intro i hi ih ls hls
      have hrq : ∀ w, w ≤ 8 → Ct G yX7_roomOf wsX7_roomOf (2, 0, 0) [.ref x, .int (nI i), .int (nI w)] n T I R (z_ret (some (.int (roomQ g i w))) n T I R) := by
        intro w hw
        have h := c_X7_roomOf G (n := n) x pc 0 g (fun _ => 0) p hS (nI i) (nI w)
        rw [sp_roomOf, if_neg (by rw [hI.1.1]; exact nI_i hi (by omega)), if_neg (nI_r (Nat.zero_le _) hw (by omega)), nI_clamp (by omega), nI_clamp (by omega)] at h
        exact h
      have r0 : I (b + 1) (6 * i) = g (9 + 6 * i + 0) := LW_r0 hL (by omega)
      have r1 : I (b + 1) (6 * i + 1) = g (9 + 6 * i + 1) := LW_r hL (by omega) (by decide)
      have r2 : I (b + 1) (6 * i + 2) = g (9 + 6 * i + 2) := LW_r hL (by omega) (by decide)
      have r3 : I (b + 1) (6 * i + 3) = g (9 + 6 * i + 3) := LW_r hL (by omega) (by decide)
      have r4 : I (b + 1) (6 * i + 4) = g (9 + 6 * i + 4) := LW_r hL (by omega) (by decide)
      have hV : ¬ g (9 + 6 * i + 0) = 0 := by
        obtain ⟨V, hV, hV1, hV2⟩ := ((hI.2.2.2.2.1 i (by omega)).1 hi).1
        rw [hV]; exact nI_ne0 (by omega) (by omega)
      have hdens : roomQ g i 3 = g (9 + 6 * i + 2) / g (9 + 6 * i + 0) := by
        show dens g i = _
        rw [dens, if_neg (by omega)]
      have hlev : Ct G yL_level wsL_level (0, 0, 0) [.int (g (9 + 6 * i + 2))] n T I R (z_ret (some (.int (lvl (g (9 + 6 * i + 2)) 31))) n T I R) := by
        obtain ⟨p1, p2, -⟩ := PB_N hPB (pos_e (show i < 8 by omega))
        rw [p1]
        exact c_L_level G _ (by omega)
      have hdn : roomQ g i 7 = doorsN g (nI i) nd := by
        show doorsN g (nI i) (gN g 1) = _
        rw [gN_of hI.2.1.1 (by omega)]
      have hhr : Ct G yL_heard wsL_heard (0, 0, 0) [.ref b, .ref (b + 4), .int (nI i)] n T I R (z_ret (some (.int (roomQ g i 8))) n T I R) := by
        have h := c_L_heard G (n := n) (T := T) (I := I) (R := R) b (b + 4) np (nI i) hTg hTp hL.2.1 (by omega)
        rw [g3, hearN_congr (fun k hk => LW_ent hL hk), hear_eq (by omega) hI rfl] at h
        show Ct G yL_heard wsL_heard (0, 0, 0) [.ref b, .ref (b + 4), .int (nI i)] n T I R (z_ret (some (.int (hrN g (nI i) (gN g 2)))) n T I R)
        rw [gN_of hI.2.2.1.1 (by omega)]
        exact h
      have body : ∀ ls : List (Nat × Value), lv_pick ls [0, 1, 2, 3, 4, 5, 6, 7, 8, 9, 10, 11, 12] = [(0, .ref x), (1, .ref b), (2, .ref (b + 1)), (3, .ref (b + 2)), (4, .ref (b + 3)), (5, .ref (b + 4)), (6, .int (sumI (fun r => g (9 + 6 * r + 2)) i)), (7, .int (sumI (fun r => g (9 + 6 * r + 3)) i)), (8, .int (sumI (fun r => g (9 + 6 * r + 4)) i)), (9, .int (nI 0)), (10, .int (nI 1)), (11, .int (nI i)), (12, .int (doorsN g (nI i) nd))] → z_X G muL_isSo (3, 0, 0) (z_ret (some (.int 1)) n T I R) n T I R 0 0 87 ls [] := by
        intro ls hls
        refine z_pick [0, 1, 2, 3, 4, 5, 6, 7, 8, 9, 10, 11, 12] hls ?_
        refine z_aload_n (q := 88) dL_isSo_87 rfl rfl rfl ?_
        refine z_bipush (q := 90) (v := nI 6) dL_isSo_88 (by rfl) rfl ?_
        refine z_iload (q := 92) (i := 11) dL_isSo_90 rfl rfl ?_
        refine z_imulE (q := 93) dL_isSo_92 (pk_mul _ _) rfl ?_
        refine z_iconst (q := 94) (v := nI 2) dL_isSo_93 (by rfl) rfl ?_
        refine z_iaddE (q := 95) dL_isSo_94 (nI_add _ _) rfl ?_
        refine z_ialdV (q := 96) _ (by with_reducible assumption) (rfl) (by omega) (by decide) (r2) dL_isSo_95 rfl ?_
        refine z_istore (q := 98) dL_isSo_96 (by decide) rfl ?_
        refine z_iload (q := 100) (i := 6) dL_isSo_98 rfl rfl ?_
        refine z_iload (q := 102) (i := 13) dL_isSo_100 rfl rfl ?_
        refine z_iadd (q := 103) dL_isSo_102 rfl ?_
        refine z_istore (q := 105) dL_isSo_103 (by decide) rfl ?_
        refine z_iload (q := 107) (i := 7) dL_isSo_105 rfl rfl ?_
        refine z_aload_n (q := 108) dL_isSo_107 rfl rfl rfl ?_
        refine z_bipush (q := 110) (v := nI 6) dL_isSo_108 (by rfl) rfl ?_
        refine z_iload (q := 112) (i := 11) dL_isSo_110 rfl rfl ?_
        refine z_imulE (q := 113) dL_isSo_112 (pk_mul _ _) rfl ?_
        refine z_iconst (q := 114) (v := nI 3) dL_isSo_113 (by rfl) rfl ?_
        refine z_iaddE (q := 115) dL_isSo_114 (nI_add _ _) rfl ?_
        refine z_ialdV (q := 116) _ (by with_reducible assumption) (rfl) (by omega) (by decide) (r3) dL_isSo_115 rfl ?_
        refine z_iadd (q := 117) dL_isSo_116 rfl ?_
        refine z_istore (q := 119) dL_isSo_117 (by decide) rfl ?_
        refine z_iload (q := 121) (i := 8) dL_isSo_119 rfl rfl ?_
        refine z_aload_n (q := 122) dL_isSo_121 rfl rfl rfl ?_
        refine z_bipush (q := 124) (v := nI 6) dL_isSo_122 (by rfl) rfl ?_
        refine z_iload (q := 126) (i := 11) dL_isSo_124 rfl rfl ?_
        refine z_imulE (q := 127) dL_isSo_126 (pk_mul _ _) rfl ?_
        refine z_iconst (q := 128) (v := nI 4) dL_isSo_127 (by rfl) rfl ?_
        refine z_iaddE (q := 129) dL_isSo_128 (nI_add _ _) rfl ?_
        refine z_ialdV (q := 130) _ (by with_reducible assumption) (rfl) (by omega) (by decide) (r4) dL_isSo_129 rfl ?_
        refine z_iadd (q := 131) dL_isSo_130 rfl ?_
        refine z_istore (q := 133) dL_isSo_131 (by decide) rfl ?_
        refine z_aload_n (q := 134) dL_isSo_133 rfl rfl rfl ?_
        refine z_iload (q := 136) (i := 11) dL_isSo_134 rfl rfl ?_
        refine z_iconst (q := 137) (v := nI 0) dL_isSo_136 (by rfl) rfl ?_
        refine z_invV (q := 140) (hrq 0 (by decide)) (by with_reducible assumption) rfl gL_isSo_X7_roomOf rfl hy_X7_roomOf rfl rfl rfl rfl (Nat.le_of_ble_eq_true rfl) ⟨Nat.zero_le _, Nat.zero_le _⟩ dL_isSo_137 rfl (z_rv ?_)
        refine z_aload_n (q := 141) dL_isSo_140 rfl rfl rfl ?_
        refine z_bipush (q := 143) (v := nI 6) dL_isSo_141 (by rfl) rfl ?_
        refine z_iload (q := 145) (i := 11) dL_isSo_143 rfl rfl ?_
        refine z_imulE (q := 146) dL_isSo_145 (pk_mul _ _) rfl ?_
        refine z_ialdV (q := 147) _ (by with_reducible assumption) (rfl) (by omega) (by decide) (r0) dL_isSo_146 rfl ?_
        refine z_icmp_ne (tgt := 291) (q := 150) dL_isSo_147 (by decide) rfl (fun hc => False.elim (hc rfl)) (fun _ => ?_)
        refine z_aload_n (q := 151) dL_isSo_150 rfl rfl rfl ?_
        refine z_iload (q := 153) (i := 11) dL_isSo_151 rfl rfl ?_
        refine z_iconst (q := 154) (v := nI 1) dL_isSo_153 (by rfl) rfl ?_
        refine z_invV (q := 157) (hrq 1 (by decide)) (by with_reducible assumption) rfl gL_isSo_X7_roomOf rfl hy_X7_roomOf rfl rfl rfl rfl (Nat.le_of_ble_eq_true rfl) ⟨Nat.zero_le _, Nat.zero_le _⟩ dL_isSo_154 rfl (z_rv ?_)
        refine z_aload_n (q := 158) dL_isSo_157 rfl rfl rfl ?_
        refine z_bipush (q := 160) (v := nI 6) dL_isSo_158 (by rfl) rfl ?_
        refine z_iload (q := 162) (i := 11) dL_isSo_160 rfl rfl ?_
        refine z_imulE (q := 163) dL_isSo_162 (pk_mul _ _) rfl ?_
        refine z_iconst (q := 164) (v := nI 1) dL_isSo_163 (by rfl) rfl ?_
        refine z_iaddE (q := 165) dL_isSo_164 (nI_add _ _) rfl ?_
        refine z_ialdV (q := 166) _ (by with_reducible assumption) (rfl) (by omega) (by decide) (r1) dL_isSo_165 rfl ?_
        refine z_icmp_ne (tgt := 291) (q := 169) dL_isSo_166 (by decide) rfl (fun hc => False.elim (hc rfl)) (fun _ => ?_)
        refine z_aload_n (q := 170) dL_isSo_169 rfl rfl rfl ?_
        refine z_iload (q := 172) (i := 11) dL_isSo_170 rfl rfl ?_
        refine z_iconst (q := 173) (v := nI 2) dL_isSo_172 (by rfl) rfl ?_
        refine z_invV (q := 176) (hrq 2 (by decide)) (by with_reducible assumption) rfl gL_isSo_X7_roomOf rfl hy_X7_roomOf rfl rfl rfl rfl (Nat.le_of_ble_eq_true rfl) ⟨Nat.zero_le _, Nat.zero_le _⟩ dL_isSo_173 rfl (z_rv ?_)
        refine z_iload (q := 178) (i := 13) dL_isSo_176 rfl rfl ?_
        refine z_icmp_ne (tgt := 291) (q := 181) dL_isSo_178 (by decide) rfl (fun hc => False.elim (hc rfl)) (fun _ => ?_)
        refine z_aload_n (q := 182) dL_isSo_181 rfl rfl rfl ?_
        refine z_iload (q := 184) (i := 11) dL_isSo_182 rfl rfl ?_
        refine z_iconst (q := 185) (v := nI 3) dL_isSo_184 (by rfl) rfl ?_
        refine z_invV (q := 188) (hrq 3 (by decide)) (by with_reducible assumption) rfl gL_isSo_X7_roomOf rfl hy_X7_roomOf rfl rfl rfl rfl (Nat.le_of_ble_eq_true rfl) ⟨Nat.zero_le _, Nat.zero_le _⟩ dL_isSo_185 rfl (z_rv ?_)
        refine z_iload (q := 190) (i := 13) dL_isSo_188 rfl rfl ?_
        refine z_aload_n (q := 191) dL_isSo_190 rfl rfl rfl ?_
        refine z_bipush (q := 193) (v := nI 6) dL_isSo_191 (by rfl) rfl ?_
        refine z_iload (q := 195) (i := 11) dL_isSo_193 rfl rfl ?_
        refine z_imulE (q := 196) dL_isSo_195 (pk_mul _ _) rfl ?_
        refine z_ialdV (q := 197) _ (by with_reducible assumption) (rfl) (by omega) (by decide) (r0) dL_isSo_196 rfl ?_
        refine z_idiv (q := 198) dL_isSo_197 (hV) rfl ?_
        refine z_icmp_ne (tgt := 291) (q := 201) dL_isSo_198 (by decide) rfl (fun hc => False.elim (hc hdens)) (fun _ => ?_)
        refine z_aload_n (q := 202) dL_isSo_201 rfl rfl rfl ?_
        refine z_iload (q := 204) (i := 11) dL_isSo_202 rfl rfl ?_
        refine z_iconst (q := 205) (v := nI 4) dL_isSo_204 (by rfl) rfl ?_
        refine z_invV (q := 208) (hrq 4 (by decide)) (by with_reducible assumption) rfl gL_isSo_X7_roomOf rfl hy_X7_roomOf rfl rfl rfl rfl (Nat.le_of_ble_eq_true rfl) ⟨Nat.zero_le _, Nat.zero_le _⟩ dL_isSo_205 rfl (z_rv ?_)
        refine z_iload (q := 210) (i := 13) dL_isSo_208 rfl rfl ?_
        refine z_invS (q := 213) (hlev) gL_isSo_L_level rfl hy_L_level rfl rfl rfl rfl (Nat.le_of_ble_eq_true rfl) ⟨Nat.zero_le _, Nat.zero_le _⟩ dL_isSo_210 rfl (z_rv ?_)
        refine z_icmp_ne (tgt := 291) (q := 216) dL_isSo_213 (by decide) rfl (fun hc => False.elim (hc rfl)) (fun _ => ?_)
        refine z_aload_n (q := 217) dL_isSo_216 rfl rfl rfl ?_
        refine z_iload (q := 219) (i := 11) dL_isSo_217 rfl rfl ?_
        refine z_iconst (q := 220) (v := nI 5) dL_isSo_219 (by rfl) rfl ?_
        refine z_invV (q := 223) (hrq 5 (by decide)) (by with_reducible assumption) rfl gL_isSo_X7_roomOf rfl hy_X7_roomOf rfl rfl rfl rfl (Nat.le_of_ble_eq_true rfl) ⟨Nat.zero_le _, Nat.zero_le _⟩ dL_isSo_220 rfl (z_rv ?_)
        refine z_aload_n (q := 224) dL_isSo_223 rfl rfl rfl ?_
        refine z_bipush (q := 226) (v := nI 6) dL_isSo_224 (by rfl) rfl ?_
        refine z_iload (q := 228) (i := 11) dL_isSo_226 rfl rfl ?_
        refine z_imulE (q := 229) dL_isSo_228 (pk_mul _ _) rfl ?_
        refine z_iconst (q := 230) (v := nI 3) dL_isSo_229 (by rfl) rfl ?_
        refine z_iaddE (q := 231) dL_isSo_230 (nI_add _ _) rfl ?_
        refine z_ialdV (q := 232) _ (by with_reducible assumption) (rfl) (by omega) (by decide) (r3) dL_isSo_231 rfl ?_
        refine z_icmp_ne (tgt := 291) (q := 235) dL_isSo_232 (by decide) rfl (fun hc => False.elim (hc rfl)) (fun _ => ?_)
        refine z_aload_n (q := 236) dL_isSo_235 rfl rfl rfl ?_
        refine z_iload (q := 238) (i := 11) dL_isSo_236 rfl rfl ?_
        refine z_bipush (q := 240) (v := nI 6) dL_isSo_238 (by rfl) rfl ?_
        refine z_invV (q := 243) (hrq 6 (by decide)) (by with_reducible assumption) rfl gL_isSo_X7_roomOf rfl hy_X7_roomOf rfl rfl rfl rfl (Nat.le_of_ble_eq_true rfl) ⟨Nat.zero_le _, Nat.zero_le _⟩ dL_isSo_240 rfl (z_rv ?_)
        refine z_aload_n (q := 244) dL_isSo_243 rfl rfl rfl ?_
        refine z_bipush (q := 246) (v := nI 6) dL_isSo_244 (by rfl) rfl ?_
        refine z_iload (q := 248) (i := 11) dL_isSo_246 rfl rfl ?_
        refine z_imulE (q := 249) dL_isSo_248 (pk_mul _ _) rfl ?_
        refine z_iconst (q := 250) (v := nI 4) dL_isSo_249 (by rfl) rfl ?_
        refine z_iaddE (q := 251) dL_isSo_250 (nI_add _ _) rfl ?_
        refine z_ialdV (q := 252) _ (by with_reducible assumption) (rfl) (by omega) (by decide) (r4) dL_isSo_251 rfl ?_
        refine z_icmp_ne (tgt := 291) (q := 255) dL_isSo_252 (by decide) rfl (fun hc => False.elim (hc rfl)) (fun _ => ?_)
        refine z_aload_n (q := 256) dL_isSo_255 rfl rfl rfl ?_
        refine z_iload (q := 258) (i := 11) dL_isSo_256 rfl rfl ?_
        refine z_bipush (q := 260) (v := nI 7) dL_isSo_258 (by rfl) rfl ?_
        refine z_invV (q := 263) (hrq 7 (by decide)) (by with_reducible assumption) rfl gL_isSo_X7_roomOf rfl hy_X7_roomOf rfl rfl rfl rfl (Nat.le_of_ble_eq_true rfl) ⟨Nat.zero_le _, Nat.zero_le _⟩ dL_isSo_260 rfl (z_rv ?_)
        refine z_iload (q := 265) (i := 12) dL_isSo_263 rfl rfl ?_
        refine z_icmp_ne (tgt := 291) (q := 268) dL_isSo_265 (by decide) rfl (fun hc => False.elim (hc hdn)) (fun _ => ?_)
        refine z_aload_n (q := 269) dL_isSo_268 rfl rfl rfl ?_
        refine z_iload (q := 271) (i := 11) dL_isSo_269 rfl rfl ?_
        refine z_bipush (q := 273) (v := nI 8) dL_isSo_271 (by rfl) rfl ?_
        refine z_invV (q := 276) (hrq 8 (by decide)) (by with_reducible assumption) rfl gL_isSo_X7_roomOf rfl hy_X7_roomOf rfl rfl rfl rfl (Nat.le_of_ble_eq_true rfl) ⟨Nat.zero_le _, Nat.zero_le _⟩ dL_isSo_273 rfl (z_rv ?_)
        refine z_aload_n (q := 277) dL_isSo_276 rfl rfl rfl ?_
        refine z_aload (q := 279) dL_isSo_277 rfl rfl ?_
        refine z_iload (q := 281) (i := 11) dL_isSo_279 rfl rfl ?_
        refine z_invS (q := 284) (hhr) gL_isSo_L_heard rfl hy_L_heard rfl rfl rfl rfl (Nat.le_of_ble_eq_true rfl) ⟨Nat.zero_le _, Nat.zero_le _⟩ dL_isSo_281 rfl (z_rv ?_)
        refine z_icmp_ne (tgt := 291) (q := 287) dL_isSo_284 (by decide) rfl (fun hc => False.elim (hc rfl)) (fun _ => ?_)
        refine z_iconst (q := 288) (v := nI 1) dL_isSo_287 (by rfl) rfl ?_
        refine z_goto (q := 292) dL_isSo_288 (by decide) ?_
        refine z_istore (q := 294) dL_isSo_292 (by decide) rfl ?_
        refine z_iinc (q := 297) dL_isSo_294 rfl (nI_add _ 1) (by decide) rfl ?_
        refine z_goto (q := 18) dL_isSo_297 (by decide) ?_
        exact ih _ rfl
      have doors : ∀ j, j ≤ nd → ∀ ls : List (Nat × Value), lv_pick ls [0, 1, 2, 3, 4, 5, 6, 7, 8, 9, 10, 11, 12, 13] = [(0, .ref x), (1, .ref b), (2, .ref (b + 1)), (3, .ref (b + 2)), (4, .ref (b + 3)), (5, .ref (b + 4)), (6, .int (sumI (fun r => g (9 + 6 * r + 2)) i)), (7, .int (sumI (fun r => g (9 + 6 * r + 3)) i)), (8, .int (sumI (fun r => g (9 + 6 * r + 4)) i)), (9, .int (nI 0)), (10, .int (nI 1)), (11, .int (nI i)), (12, .int (doorsN g (nI i) j)), (13, .int (nI j))] → z_X G muL_isSo (3, 0, 0) (z_ret (some (.int 1)) n T I R) n T I R 0 0 37 ls [] := by
        refine z_up (N := nd) _ ?_ ?_
        · intro ls hls
          refine z_pick [0, 1, 2, 3, 4, 5, 6, 7, 8, 9, 10, 11, 12, 13] hls ?_
          refine z_iload (q := 39) (i := 13) dL_isSo_37 rfl rfl ?_
          refine z_aload_n (q := 40) dL_isSo_39 rfl rfl rfl ?_
          refine z_iconst (q := 41) (v := nI 1) dL_isSo_40 (by rfl) rfl ?_
          refine z_ialdV (q := 42) _ (by with_reducible assumption) (rfl) (by omega) (by decide) (g1) dL_isSo_41 rfl ?_
          refine z_icmpn_ge (rfl) (rfl) (by omega) (by omega) (tgt := 87) (q := 45) dL_isSo_42 (by decide) rfl (fun _ => ?_) (fun hc => absurd hc (by omega))
          exact body _ rfl
        · intro j hj ihj ls hls
          obtain ⟨da, dc, -, -, -, -, -, -, ⟨q1, q1'⟩, ⟨q2, q2'⟩, -⟩ := (hI.2.2.2.2.2.1 j (by omega)).1 hj
          have ea : I (b + 2) (10 * j) = nI da := by rw [LW_d0 hL (by omega)]; exact q1
          have ec : I (b + 2) (10 * j + 1) = nI dc := by rw [LW_d hL (by omega) (by decide)]; exact q2
          have hN : doorsN g (nI i) (j + 1) = doorsN g (nI i) j + if da = i ∨ dc = i then nI 1 else nI 0 := by
            have h : doorsN g (nI i) (j + 1) = doorsN g (nI i) j + if g (57 + 10 * j + 0) = nI i ∨ g (57 + 10 * j + 1) = nI i then 1 else 0 := rfl
            rw [h, q1, q2]
            by_cases z : da = i ∨ dc = i
            · rw [if_pos z, if_pos (z.elim (fun e => Or.inl (by rw [e])) (fun e => Or.inr (by rw [e]))), zI1]
            · rw [if_neg z, if_neg (fun y => y.elim (fun e => z (Or.inl ((nI_eq (by omega) (by omega)).mp e))) (fun e => z (Or.inr ((nI_eq (by omega) (by omega)).mp e)))), nI_0]
          refine z_pick [0, 1, 2, 3, 4, 5, 6, 7, 8, 9, 10, 11, 12, 13] hls ?_
          refine z_iload (q := 39) (i := 13) dL_isSo_37 rfl rfl ?_
          refine z_aload_n (q := 40) dL_isSo_39 rfl rfl rfl ?_
          refine z_iconst (q := 41) (v := nI 1) dL_isSo_40 (by rfl) rfl ?_
          refine z_ialdV (q := 42) _ (by with_reducible assumption) (rfl) (by omega) (by decide) (g1) dL_isSo_41 rfl ?_
          refine z_icmpn_ge (rfl) (rfl) (by omega) (by omega) (tgt := 87) (q := 45) dL_isSo_42 (by decide) rfl (fun hc => absurd hc (by omega)) (fun _ => ?_)
          refine z_iload (q := 47) (i := 12) dL_isSo_45 rfl rfl ?_
          refine z_aload_n (q := 48) dL_isSo_47 rfl rfl rfl ?_
          refine z_bipush (q := 50) (v := nI 10) dL_isSo_48 (by rfl) rfl ?_
          refine z_iload (q := 52) (i := 13) dL_isSo_50 rfl rfl ?_
          refine z_imulE (q := 53) dL_isSo_52 (pk_mul _ _) rfl ?_
          refine z_ialdV (q := 54) _ (by with_reducible assumption) (rfl) (by omega) (by decide) (ea) dL_isSo_53 rfl ?_
          refine z_iload (q := 56) (i := 11) dL_isSo_54 rfl rfl ?_
          refine z_icmpn_eq (rfl) (rfl) (by omega) (by omega) (tgt := 73) (q := 59) dL_isSo_56 (by decide) rfl (fun h56 => ?_) (fun h56 => ?_)
          · refine z_iconst (q := 74) (v := nI 1) dL_isSo_73 (by rfl) rfl ?_
            refine z_goto (q := 78) dL_isSo_74 (by decide) ?_
            refine z_iadd (q := 79) dL_isSo_78 rfl ?_
            refine z_istore (q := 81) dL_isSo_79 (by decide) rfl ?_
            refine z_iinc (q := 84) dL_isSo_81 rfl (nI_add _ 1) (by decide) rfl ?_
            refine z_goto (q := 37) dL_isSo_84 (by decide) ?_
            exact ihj _ (by rw [hN, if_pos (Or.inl h56)]; rfl)
          · refine z_aload_n (q := 60) dL_isSo_59 rfl rfl rfl ?_
            refine z_bipush (q := 62) (v := nI 10) dL_isSo_60 (by rfl) rfl ?_
            refine z_iload (q := 64) (i := 13) dL_isSo_62 rfl rfl ?_
            refine z_imulE (q := 65) dL_isSo_64 (pk_mul _ _) rfl ?_
            refine z_iconst (q := 66) (v := nI 1) dL_isSo_65 (by rfl) rfl ?_
            refine z_iaddE (q := 67) dL_isSo_66 (nI_add _ _) rfl ?_
            refine z_ialdV (q := 68) _ (by with_reducible assumption) (rfl) (by omega) (by decide) (ec) dL_isSo_67 rfl ?_
            refine z_iload (q := 70) (i := 11) dL_isSo_68 rfl rfl ?_
            refine z_icmpn_ne (rfl) (rfl) (by omega) (by omega) (tgt := 77) (q := 73) dL_isSo_70 (by decide) rfl (fun h70 => ?_) (fun h70 => ?_)
            · refine z_iconst (q := 78) (v := nI 0) dL_isSo_77 (by rfl) rfl ?_
              refine z_iadd (q := 79) dL_isSo_78 rfl ?_
              refine z_istore (q := 81) dL_isSo_79 (by decide) rfl ?_
              refine z_iinc (q := 84) dL_isSo_81 rfl (nI_add _ 1) (by decide) rfl ?_
              refine z_goto (q := 37) dL_isSo_84 (by decide) ?_
              exact ihj _ (by rw [hN, if_neg (by omega)]; rfl)
            · refine z_iconst (q := 74) (v := nI 1) dL_isSo_73 (by rfl) rfl ?_
              refine z_goto (q := 78) dL_isSo_74 (by decide) ?_
              refine z_iadd (q := 79) dL_isSo_78 rfl ?_
              refine z_istore (q := 81) dL_isSo_79 (by decide) rfl ?_
              refine z_iinc (q := 84) dL_isSo_81 rfl (nI_add _ 1) (by decide) rfl ?_
              refine z_goto (q := 37) dL_isSo_84 (by decide) ?_
              exact ihj _ (by rw [hN, if_pos (Or.inr h70)]; rfl)
      refine z_pick [0, 1, 2, 3, 4, 5, 6, 7, 8, 9, 10, 11] hls ?_
      refine z_iload (q := 20) (i := 11) dL_isSo_18 rfl rfl ?_
      refine z_aload_n (q := 21) dL_isSo_20 rfl rfl rfl ?_
      refine z_iconst (q := 22) (v := nI 0) dL_isSo_21 (by rfl) rfl ?_
      refine z_ialdV (q := 23) _ (by with_reducible assumption) (rfl) (by omega) (by decide) (g0) dL_isSo_22 rfl ?_
      refine z_icmpn_ge (rfl) (rfl) (by omega) (by omega) (tgt := 300) (q := 26) dL_isSo_23 (by decide) rfl (fun hc => absurd hc (by omega)) (fun _ => ?_)
      refine z_iload (q := 28) (i := 10) dL_isSo_26 rfl rfl ?_
      refine z_if_eq (tgt := 300) (q := 31) dL_isSo_28 (by decide) rfl (fun hc => False.elim (absurd hc (by decide))) (fun _ => ?_)
      refine z_iconst (q := 32) (v := nI 0) dL_isSo_31 (by rfl) rfl ?_
      refine z_istore (q := 34) dL_isSo_32 (by decide) rfl ?_
      refine z_iconst (q := 35) (v := nI 0) dL_isSo_34 (by rfl) rfl ?_
      refine z_istore (q := 37) dL_isSo_35 (by decide) rfl ?_
      exact doors 0 (Nat.zero_le _) _ rfl
  refine z_iconst (q := 1) (v := nI 0) dL_isSo_0 (by rfl) rfl ?_
  refine z_istore (q := 3) dL_isSo_1 (by decide) rfl ?_
  refine z_iconst (q := 4) (v := nI 0) dL_isSo_3 (by rfl) rfl ?_
  refine z_istore (q := 6) dL_isSo_4 (by decide) rfl ?_
  refine z_iconst (q := 7) (v := nI 0) dL_isSo_6 (by rfl) rfl ?_
  refine z_istore (q := 9) dL_isSo_7 (by decide) rfl ?_
  refine z_iconst (q := 10) (v := nI 0) dL_isSo_9 (by rfl) rfl ?_
  refine z_istore (q := 12) dL_isSo_10 (by decide) rfl ?_
  refine z_iconst (q := 13) (v := nI 1) dL_isSo_12 (by rfl) rfl ?_
  refine z_istore (q := 15) dL_isSo_13 (by decide) rfl ?_
  refine z_iconst (q := 16) (v := nI 0) dL_isSo_15 (by rfl) rfl ?_
  refine z_istore (q := 18) dL_isSo_16 (by decide) rfl ?_
  exact loop 0 (Nat.zero_le _) _ rfl
set_option maxRecDepth 100000 in
set_option maxHeartbeats 4000000 in
theorem so_doors {G : zG} {n : Nat} {T : zTT} {I : zII} {R : zRR} (x b nr nd np st Bu pc : Nat) (W : Int) (g : Nat → Int32) (p : Nat → Nat → Int32) (hT : LT T b) (hS : z_St T R I x g p pc (fun _ => 0) 0) (hL : LWP I b np g (planL g np)) (hH : PH nr nd np st Bu W g) (hst : st ≤ 5000) (A C D : Int32) (kk : ∀ ls : List (Nat × Value), lv_pick ls [0, 1, 2, 3, 4, 5, 6, 7, 8, 9, 10, 11] = [(0, .ref x), (1, .ref b), (2, .ref (b + 1)), (3, .ref (b + 2)), (4, .ref (b + 3)), (5, .ref (b + 4)), (6, .int A), (7, .int C), (8, .int D), (9, .int (sumI (fun d => sumI (fun j => g (177 + 12 * d + j)) 12) nd)), (10, .int (nI 1)), (11, .int (nI nd))] → z_X G muL_isSo (3, 0, 0) (z_ret (some (.int 1)) n T I R) n T I R 0 0 493 ls []) : ∀ ls : List (Nat × Value), lv_pick ls [0, 1, 2, 3, 4, 5, 6, 7, 8, 9, 10] = [(0, .ref x), (1, .ref b), (2, .ref (b + 1)), (3, .ref (b + 2)), (4, .ref (b + 3)), (5, .ref (b + 4)), (6, .int A), (7, .int C), (8, .int D), (9, .int (nI 0)), (10, .int (nI 1))] → z_X G muL_isSo (3, 0, 0) (z_ret (some (.int 1)) n T I R) n T I R 0 0 300 ls [] := by
  have hTx := hS.1.1
  have hTg := hT.1
  have hTr := hT.2.1
  have hTd := hT.2.2.1
  have hTy := hT.2.2.2.1
  have hTp := hT.2.2.2.2.1
  have hI := hH.1
  have hPB := hH.2.2.2.2.1
  obtain ⟨h4, h4', h8⟩ := hH.2.1
  have g0 : I b 0 = nI nr := by rw [hL.1 0 (by decide) (by decide)]; exact hI.1.1
  have g1 : I b 1 = nI nd := by rw [hL.1 1 (by decide) (by decide)]; exact hI.2.1.1
  have g2 : I b 2 = nI np := hL.2.1
  have g3 : I b 3 = nI st := by rw [hL.1 3 (by decide) (by decide)]; exact hI.2.2.2.1
  have loop : ∀ i, i ≤ nd → ∀ ls : List (Nat × Value), lv_pick ls [0, 1, 2, 3, 4, 5, 6, 7, 8, 9, 10, 11] = [(0, .ref x), (1, .ref b), (2, .ref (b + 1)), (3, .ref (b + 2)), (4, .ref (b + 3)), (5, .ref (b + 4)), (6, .int A), (7, .int C), (8, .int D), (9, .int (sumI (fun d => sumI (fun j => g (177 + 12 * d + j)) 12) i)), (10, .int (nI 1)), (11, .int (nI i))] → z_X G muL_isSo (3, 0, 0) (z_ret (some (.int 1)) n T I R) n T I R 0 0 303 ls [] := by
    refine z_up (N := nd) _ ?_ ?_
    · intro ls hls
      refine z_pick [0, 1, 2, 3, 4, 5, 6, 7, 8, 9, 10, 11] hls ?_
      refine z_iload (q := 305) (i := 11) dL_isSo_303 rfl rfl ?_
      refine z_aload_n (q := 306) dL_isSo_305 rfl rfl rfl ?_
      refine z_iconst (q := 307) (v := nI 1) dL_isSo_306 (by rfl) rfl ?_
      refine z_ialdV (q := 308) _ (by with_reducible assumption) (rfl) (by omega) (by decide) (g1) dL_isSo_307 rfl ?_
      refine z_icmpn_ge (rfl) (rfl) (by omega) (by omega) (tgt := 493) (q := 311) dL_isSo_308 (by decide) rfl (fun _ => ?_) (fun hc => absurd hc (by omega))
      exact kk _ rfl
    · intro i hi ih ls hls
      have hdq : ∀ w, w ≤ 12 → Ct G yX7_doorOf wsX7_doorOf (2, 0, 0) [.ref x, .int (nI i), .int (nI w)] n T I R (z_ret (some (.int (doorQ g i w))) n T I R) := by
        intro w hw
        have h := c_X7_doorOf G (n := n) x pc 0 g (fun _ => 0) p hS (nI i) (nI w)
        rw [sp_doorOf, if_neg (by rw [hI.2.1.1]; exact nI_i hi (by omega)), if_neg (nI_r (Nat.zero_le _) hw (by omega)), nI_clamp (by omega), nI_clamp (by omega)] at h
        exact h
      have how : Ct G yL_onWay wsL_onWay (0, 0, 0) [.ref (b + 3), .int (nI i)] n T I R (z_ret (some (.int (sumI (fun j => g (177 + 12 * i + j)) 12))) n T I R) := by
        have h := c_L_onWay G (n := n) (T := T) (I := I) (R := R) (b + 3) i hTy (by omega)
        rw [sumI_congr (fun j hj => LW_y hL (show i < 4 by omega) hj)] at h
        exact h
      have q8 : doorQ g i 8 = sumI (fun j => g (177 + 12 * i + j)) 12 := by rw [doorQ, if_neg (by decide), if_pos rfl]
      have q9 : doorQ g i 9 = g (57 + 10 * i + 8) := by rw [doorQ, if_neg (by decide), if_neg (by decide), if_pos (by decide)]
      have q10 : doorQ g i 10 = g (57 + 10 * i + 9) := by rw [doorQ, if_neg (by decide), if_neg (by decide), if_pos (by decide)]
      have qf : ∀ s, s < 2 → doorQ g i (11 + s) = thrG g (2 * i + s) := fun s hs => by rw [doorQ, if_neg (by omega), if_neg (by omega), if_neg (by omega), thrG_ds g hs, show 11 + s - 11 = s by omega]
      have e8 : I (b + 2) (10 * i + 8) = g (57 + 10 * i + 8) := LW_d hL (by omega) (by decide)
      have e9 : I (b + 2) (10 * i + 9) = g (57 + 10 * i + 9) := LW_d hL (by omega) (by decide)
      have fl := fun s (hs : s < 2) => c_L_flow G (n := n) (T := T) (I := I) (R := R) b nr nd np np st i s W g hT (planL g np) hL hI hPB h4 h4' hi hs
      have body : ∀ ls : List (Nat × Value), lv_pick ls [0, 1, 2, 3, 4, 5, 6, 7, 8, 9, 10, 11] = [(0, .ref x), (1, .ref b), (2, .ref (b + 1)), (3, .ref (b + 2)), (4, .ref (b + 3)), (5, .ref (b + 4)), (6, .int A), (7, .int C), (8, .int D), (9, .int (sumI (fun d => sumI (fun j => g (177 + 12 * d + j)) 12) (i + 1))), (10, .int (nI 1)), (11, .int (nI i))] → z_X G muL_isSo (3, 0, 0) (z_ret (some (.int 1)) n T I R) n T I R 0 0 377 ls [] := by
        intro ls hls
        refine z_pick [0, 1, 2, 3, 4, 5, 6, 7, 8, 9, 10, 11] hls ?_
        refine z_iload (q := 379) (i := 10) dL_isSo_377 rfl rfl ?_
        refine z_if_eq (tgt := 484) (q := 382) dL_isSo_379 (by decide) rfl (fun hc => False.elim (absurd hc (by decide))) (fun _ => ?_)
        refine z_aload_n (q := 383) dL_isSo_382 rfl rfl rfl ?_
        refine z_iload (q := 385) (i := 11) dL_isSo_383 rfl rfl ?_
        refine z_bipush (q := 387) (v := nI 8) dL_isSo_385 (by rfl) rfl ?_
        refine z_invV (q := 390) (hdq 8 (by decide)) (by with_reducible assumption) rfl gL_isSo_X7_doorOf rfl hy_X7_doorOf rfl rfl rfl rfl (Nat.le_of_ble_eq_true rfl) ⟨Nat.zero_le _, Nat.zero_le _⟩ dL_isSo_387 rfl (z_rv ?_)
        refine z_aload (q := 392) dL_isSo_390 rfl rfl ?_
        refine z_iload (q := 394) (i := 11) dL_isSo_392 rfl rfl ?_
        refine z_invS (q := 397) (how) gL_isSo_L_onWay rfl hy_L_onWay rfl rfl rfl rfl (Nat.le_of_ble_eq_true rfl) ⟨Nat.zero_le _, Nat.zero_le _⟩ dL_isSo_394 rfl (z_rv ?_)
        refine z_icmp_ne (tgt := 484) (q := 400) dL_isSo_397 (by decide) rfl (fun hc => False.elim (hc q8)) (fun _ => ?_)
        refine z_aload_n (q := 401) dL_isSo_400 rfl rfl rfl ?_
        refine z_iload (q := 403) (i := 11) dL_isSo_401 rfl rfl ?_
        refine z_bipush (q := 405) (v := nI 9) dL_isSo_403 (by rfl) rfl ?_
        refine z_invV (q := 408) (hdq 9 (by decide)) (by with_reducible assumption) rfl gL_isSo_X7_doorOf rfl hy_X7_doorOf rfl rfl rfl rfl (Nat.le_of_ble_eq_true rfl) ⟨Nat.zero_le _, Nat.zero_le _⟩ dL_isSo_405 rfl (z_rv ?_)
        refine z_aload_n (q := 409) dL_isSo_408 rfl rfl rfl ?_
        refine z_bipush (q := 411) (v := nI 10) dL_isSo_409 (by rfl) rfl ?_
        refine z_iload (q := 413) (i := 11) dL_isSo_411 rfl rfl ?_
        refine z_imulE (q := 414) dL_isSo_413 (pk_mul _ _) rfl ?_
        refine z_bipush (q := 416) (v := nI 8) dL_isSo_414 (by rfl) rfl ?_
        refine z_iaddE (q := 417) dL_isSo_416 (nI_add _ _) rfl ?_
        refine z_ialdV (q := 418) _ (by with_reducible assumption) (rfl) (by omega) (by decide) (e8) dL_isSo_417 rfl ?_
        refine z_icmp_ne (tgt := 484) (q := 421) dL_isSo_418 (by decide) rfl (fun hc => False.elim (hc q9)) (fun _ => ?_)
        refine z_aload_n (q := 422) dL_isSo_421 rfl rfl rfl ?_
        refine z_iload (q := 424) (i := 11) dL_isSo_422 rfl rfl ?_
        refine z_bipush (q := 426) (v := nI 10) dL_isSo_424 (by rfl) rfl ?_
        refine z_invV (q := 429) (hdq 10 (by decide)) (by with_reducible assumption) rfl gL_isSo_X7_doorOf rfl hy_X7_doorOf rfl rfl rfl rfl (Nat.le_of_ble_eq_true rfl) ⟨Nat.zero_le _, Nat.zero_le _⟩ dL_isSo_426 rfl (z_rv ?_)
        refine z_aload_n (q := 430) dL_isSo_429 rfl rfl rfl ?_
        refine z_bipush (q := 432) (v := nI 10) dL_isSo_430 (by rfl) rfl ?_
        refine z_iload (q := 434) (i := 11) dL_isSo_432 rfl rfl ?_
        refine z_imulE (q := 435) dL_isSo_434 (pk_mul _ _) rfl ?_
        refine z_bipush (q := 437) (v := nI 9) dL_isSo_435 (by rfl) rfl ?_
        refine z_iaddE (q := 438) dL_isSo_437 (nI_add _ _) rfl ?_
        refine z_ialdV (q := 439) _ (by with_reducible assumption) (rfl) (by omega) (by decide) (e9) dL_isSo_438 rfl ?_
        refine z_icmp_ne (tgt := 484) (q := 442) dL_isSo_439 (by decide) rfl (fun hc => False.elim (hc q10)) (fun _ => ?_)
        refine z_aload_n (q := 443) dL_isSo_442 rfl rfl rfl ?_
        refine z_iload (q := 445) (i := 11) dL_isSo_443 rfl rfl ?_
        refine z_bipush (q := 447) (v := nI 11) dL_isSo_445 (by rfl) rfl ?_
        refine z_invV (q := 450) (hdq 11 (by decide)) (by with_reducible assumption) rfl gL_isSo_X7_doorOf rfl hy_X7_doorOf rfl rfl rfl rfl (Nat.le_of_ble_eq_true rfl) ⟨Nat.zero_le _, Nat.zero_le _⟩ dL_isSo_447 rfl (z_rv ?_)
        refine z_aload_n (q := 451) dL_isSo_450 rfl rfl rfl ?_
        refine z_aload_n (q := 452) dL_isSo_451 rfl rfl rfl ?_
        refine z_iload (q := 454) (i := 11) dL_isSo_452 rfl rfl ?_
        refine z_iconst (q := 455) (v := nI 0) dL_isSo_454 (by rfl) rfl ?_
        refine z_invS (q := 458) (fl 0 (by decide)) gL_isSo_L_flow rfl hy_L_flow rfl rfl rfl rfl (Nat.le_of_ble_eq_true rfl) ⟨Nat.zero_le _, Nat.zero_le _⟩ dL_isSo_455 rfl (z_rv ?_)
        refine z_icmp_ne (tgt := 484) (q := 461) dL_isSo_458 (by decide) rfl (fun hc => False.elim (hc (qf 0 (by decide)))) (fun _ => ?_)
        refine z_aload_n (q := 462) dL_isSo_461 rfl rfl rfl ?_
        refine z_iload (q := 464) (i := 11) dL_isSo_462 rfl rfl ?_
        refine z_bipush (q := 466) (v := nI 12) dL_isSo_464 (by rfl) rfl ?_
        refine z_invV (q := 469) (hdq 12 (by decide)) (by with_reducible assumption) rfl gL_isSo_X7_doorOf rfl hy_X7_doorOf rfl rfl rfl rfl (Nat.le_of_ble_eq_true rfl) ⟨Nat.zero_le _, Nat.zero_le _⟩ dL_isSo_466 rfl (z_rv ?_)
        refine z_aload_n (q := 470) dL_isSo_469 rfl rfl rfl ?_
        refine z_aload_n (q := 471) dL_isSo_470 rfl rfl rfl ?_
        refine z_iload (q := 473) (i := 11) dL_isSo_471 rfl rfl ?_
        refine z_iconst (q := 474) (v := nI 1) dL_isSo_473 (by rfl) rfl ?_
        refine z_invS (q := 477) (fl 1 (by decide)) gL_isSo_L_flow rfl hy_L_flow rfl rfl rfl rfl (Nat.le_of_ble_eq_true rfl) ⟨Nat.zero_le _, Nat.zero_le _⟩ dL_isSo_474 rfl (z_rv ?_)
        refine z_icmp_ne (tgt := 484) (q := 480) dL_isSo_477 (by decide) rfl (fun hc => False.elim (hc (qf 1 (by decide)))) (fun _ => ?_)
        refine z_iconst (q := 481) (v := nI 1) dL_isSo_480 (by rfl) rfl ?_
        refine z_goto (q := 485) dL_isSo_481 (by decide) ?_
        refine z_istore (q := 487) dL_isSo_485 (by decide) rfl ?_
        refine z_iinc (q := 490) dL_isSo_487 rfl (nI_add _ 1) (by decide) rfl ?_
        refine z_goto (q := 303) dL_isSo_490 (by decide) ?_
        exact ih _ rfl
      have eight : ∀ j, j ≤ 8 → ∀ ls : List (Nat × Value), lv_pick ls [0, 1, 2, 3, 4, 5, 6, 7, 8, 9, 10, 11, 12] = [(0, .ref x), (1, .ref b), (2, .ref (b + 1)), (3, .ref (b + 2)), (4, .ref (b + 3)), (5, .ref (b + 4)), (6, .int A), (7, .int C), (8, .int D), (9, .int (sumI (fun d => sumI (fun j => g (177 + 12 * d + j)) 12) (i + 1))), (10, .int (nI 1)), (11, .int (nI i)), (12, .int (nI j))] → z_X G muL_isSo (3, 0, 0) (z_ret (some (.int 1)) n T I R) n T I R 0 0 331 ls [] := by
        refine z_up (N := 8) _ ?_ ?_
        · intro ls hls
          refine z_pick [0, 1, 2, 3, 4, 5, 6, 7, 8, 9, 10, 11, 12] hls ?_
          refine z_iload (q := 333) (i := 12) dL_isSo_331 rfl rfl ?_
          refine z_bipush (q := 335) (v := nI 8) dL_isSo_333 (by rfl) rfl ?_
          refine z_icmpn_ge (rfl) (rfl) (by omega) (by omega) (tgt := 377) (q := 338) dL_isSo_335 (by decide) rfl (fun _ => ?_) (fun hc => absurd hc (by omega))
          exact body _ rfl
        · intro j hj ihj ls hls
          have ej : I (b + 2) (10 * i + j) = g (57 + 10 * i + j) := LW_d hL (by omega) (by omega)
          have qj : doorQ g i j = g (57 + 10 * i + j) := by rw [doorQ, if_pos hj]
          refine z_pick [0, 1, 2, 3, 4, 5, 6, 7, 8, 9, 10, 11, 12] hls ?_
          refine z_iload (q := 333) (i := 12) dL_isSo_331 rfl rfl ?_
          refine z_bipush (q := 335) (v := nI 8) dL_isSo_333 (by rfl) rfl ?_
          refine z_icmpn_ge (rfl) (rfl) (by omega) (by omega) (tgt := 377) (q := 338) dL_isSo_335 (by decide) rfl (fun hc => absurd hc (by omega)) (fun _ => ?_)
          refine z_iload (q := 340) (i := 10) dL_isSo_338 rfl rfl ?_
          refine z_if_eq (tgt := 368) (q := 343) dL_isSo_340 (by decide) rfl (fun hc => False.elim (absurd hc (by decide))) (fun _ => ?_)
          refine z_aload_n (q := 344) dL_isSo_343 rfl rfl rfl ?_
          refine z_iload (q := 346) (i := 11) dL_isSo_344 rfl rfl ?_
          refine z_iload (q := 348) (i := 12) dL_isSo_346 rfl rfl ?_
          refine z_invV (q := 351) (hdq j (by omega)) (by with_reducible assumption) rfl gL_isSo_X7_doorOf rfl hy_X7_doorOf rfl rfl rfl rfl (Nat.le_of_ble_eq_true rfl) ⟨Nat.zero_le _, Nat.zero_le _⟩ dL_isSo_348 rfl (z_rv ?_)
          refine z_aload_n (q := 352) dL_isSo_351 rfl rfl rfl ?_
          refine z_bipush (q := 354) (v := nI 10) dL_isSo_352 (by rfl) rfl ?_
          refine z_iload (q := 356) (i := 11) dL_isSo_354 rfl rfl ?_
          refine z_imulE (q := 357) dL_isSo_356 (pk_mul _ _) rfl ?_
          refine z_iload (q := 359) (i := 12) dL_isSo_357 rfl rfl ?_
          refine z_iaddE (q := 360) dL_isSo_359 (nI_add _ _) rfl ?_
          refine z_ialdV (q := 361) _ (by with_reducible assumption) (rfl) (by omega) (by decide) (ej) dL_isSo_360 rfl ?_
          refine z_icmp_ne (tgt := 368) (q := 364) dL_isSo_361 (by decide) rfl (fun hc => False.elim (hc qj)) (fun _ => ?_)
          refine z_iconst (q := 365) (v := nI 1) dL_isSo_364 (by rfl) rfl ?_
          refine z_goto (q := 369) dL_isSo_365 (by decide) ?_
          refine z_istore (q := 371) dL_isSo_369 (by decide) rfl ?_
          refine z_iinc (q := 374) dL_isSo_371 rfl (nI_add _ 1) (by decide) rfl ?_
          refine z_goto (q := 331) dL_isSo_374 (by decide) ?_
          exact ihj _ rfl
      refine z_pick [0, 1, 2, 3, 4, 5, 6, 7, 8, 9, 10, 11] hls ?_
      refine z_iload (q := 305) (i := 11) dL_isSo_303 rfl rfl ?_
      refine z_aload_n (q := 306) dL_isSo_305 rfl rfl rfl ?_
      refine z_iconst (q := 307) (v := nI 1) dL_isSo_306 (by rfl) rfl ?_
      refine z_ialdV (q := 308) _ (by with_reducible assumption) (rfl) (by omega) (by decide) (g1) dL_isSo_307 rfl ?_
      refine z_icmpn_ge (rfl) (rfl) (by omega) (by omega) (tgt := 493) (q := 311) dL_isSo_308 (by decide) rfl (fun hc => absurd hc (by omega)) (fun _ => ?_)
      refine z_iload (q := 313) (i := 10) dL_isSo_311 rfl rfl ?_
      refine z_if_eq (tgt := 493) (q := 316) dL_isSo_313 (by decide) rfl (fun hc => False.elim (absurd hc (by decide))) (fun _ => ?_)
      refine z_iload (q := 318) (i := 9) dL_isSo_316 rfl rfl ?_
      refine z_aload (q := 320) dL_isSo_318 rfl rfl ?_
      refine z_iload (q := 322) (i := 11) dL_isSo_320 rfl rfl ?_
      refine z_invS (q := 325) (how) gL_isSo_L_onWay rfl hy_L_onWay rfl rfl rfl rfl (Nat.le_of_ble_eq_true rfl) ⟨Nat.zero_le _, Nat.zero_le _⟩ dL_isSo_322 rfl (z_rv ?_)
      refine z_iadd (q := 326) dL_isSo_325 rfl ?_
      refine z_istore (q := 328) dL_isSo_326 (by decide) rfl ?_
      refine z_iconst (q := 329) (v := nI 0) dL_isSo_328 (by rfl) rfl ?_
      refine z_istore (q := 331) dL_isSo_329 (by decide) rfl ?_
      exact eight 0 (Nat.zero_le _) _ rfl
  intro ls hls
  refine z_pick [0, 1, 2, 3, 4, 5, 6, 7, 8, 9, 10] hls ?_
  refine z_iconst (q := 301) (v := nI 0) dL_isSo_300 (by rfl) rfl ?_
  refine z_istore (q := 303) dL_isSo_301 (by decide) rfl ?_
  exact loop 0 (Nat.zero_le _) _ rfl
set_option maxRecDepth 100000 in
set_option maxHeartbeats 4000000 in
theorem so_plan {G : zG} {n : Nat} {T : zTT} {I : zII} {R : zRR} (x b nr nd np st Bu pc : Nat) (W : Int) (g : Nat → Int32) (p : Nat → Nat → Int32) (hT : LT T b) (hS : z_St T R I x g p pc (fun _ => 0) 0) (hL : LWP I b np g (planL g np)) (hH : PH nr nd np st Bu W g) (hst : st ≤ 5000) (A C D E : Int32) (kk : ∀ ls : List (Nat × Value), lv_pick ls [0, 1, 2, 3, 4, 5, 6, 7, 8, 9, 10] = [(0, .ref x), (1, .ref b), (2, .ref (b + 1)), (3, .ref (b + 2)), (4, .ref (b + 3)), (5, .ref (b + 4)), (6, .int A), (7, .int C), (8, .int D), (9, .int E), (10, .int (nI 1))] → z_X G muL_isSo (3, 0, 0) (z_ret (some (.int 1)) n T I R) n T I R 0 0 544 ls []) : ∀ ls : List (Nat × Value), lv_pick ls [0, 1, 2, 3, 4, 5, 6, 7, 8, 9, 10] = [(0, .ref x), (1, .ref b), (2, .ref (b + 1)), (3, .ref (b + 2)), (4, .ref (b + 3)), (5, .ref (b + 4)), (6, .int A), (7, .int C), (8, .int D), (9, .int E), (10, .int (nI 1))] → z_X G muL_isSo (3, 0, 0) (z_ret (some (.int 1)) n T I R) n T I R 0 0 493 ls [] := by
  have hTx := hS.1.1
  have hTg := hT.1
  have hTr := hT.2.1
  have hTd := hT.2.2.1
  have hTy := hT.2.2.2.1
  have hTp := hT.2.2.2.2.1
  have hI := hH.1
  have hPB := hH.2.2.2.2.1
  obtain ⟨h4, h4', h8⟩ := hH.2.1
  have g0 : I b 0 = nI nr := by rw [hL.1 0 (by decide) (by decide)]; exact hI.1.1
  have g1 : I b 1 = nI nd := by rw [hL.1 1 (by decide) (by decide)]; exact hI.2.1.1
  have g2 : I b 2 = nI np := hL.2.1
  have g3 : I b 3 = nI st := by rw [hL.1 3 (by decide) (by decide)]; exact hI.2.2.2.1
  have loop : ∀ i, i ≤ 5 * np → ∀ ls : List (Nat × Value), lv_pick ls [0, 1, 2, 3, 4, 5, 6, 7, 8, 9, 10, 11] = [(0, .ref x), (1, .ref b), (2, .ref (b + 1)), (3, .ref (b + 2)), (4, .ref (b + 3)), (5, .ref (b + 4)), (6, .int A), (7, .int C), (8, .int D), (9, .int E), (10, .int (nI 1)), (11, .int (nI i))] → z_X G muL_isSo (3, 0, 0) (z_ret (some (.int 1)) n T I R) n T I R 0 0 496 ls [] := by
    refine z_up (N := 5 * np) _ ?_ ?_
    · intro ls hls
      refine z_pick [0, 1, 2, 3, 4, 5, 6, 7, 8, 9, 10, 11] hls ?_
      refine z_iload (q := 498) (i := 11) dL_isSo_496 rfl rfl ?_
      refine z_iconst (q := 499) (v := nI 5) dL_isSo_498 (by rfl) rfl ?_
      refine z_aload_n (q := 500) dL_isSo_499 rfl rfl rfl ?_
      refine z_iconst (q := 501) (v := nI 2) dL_isSo_500 (by rfl) rfl ?_
      refine z_ialdV (q := 502) _ (by with_reducible assumption) (rfl) (by omega) (by decide) (g2) dL_isSo_501 rfl ?_
      refine z_imulE (q := 503) dL_isSo_502 (pk_mul _ _) rfl ?_
      refine z_icmpn_ge (rfl) (rfl) (by omega) (by omega) (tgt := 544) (q := 506) dL_isSo_503 (by decide) rfl (fun _ => ?_) (fun hc => absurd hc (by omega))
      exact kk _ rfl
    · intro i hi ih ls hls
      have hpq : Ct G yX7_plan wsX7_plan (1, 0, 0) [.ref x, .int (nI (i / 5)), .int (nI (i % 5))] n T I R (z_ret (some (.int (g (321 + 5 * (i / 5) + i % 5)))) n T I R) := by
        have h := c_X7_plan G (n := n) x pc 0 g (fun _ => 0) p hS (nI (i / 5)) (nI (i % 5))
        rw [sp_plan, if_neg (nI_pos (by omega)), if_neg (nI_r (Nat.zero_le _) (show i % 5 ≤ 4 by omega) (by omega)), hI.2.2.1.1, if_pos (nI_lt (by omega) (by omega)), nI_clamp (by omega), nI_clamp (by omega)] at h
        exact h
      have ei : I (b + 4) i = g (321 + 5 * (i / 5) + i % 5) := by
        have h := LW_pw hL (k := i / 5) (w := i % 5) (by omega) (by omega)
        rw [show 5 * (i / 5) + i % 5 = i by omega] at h
        exact h
      refine z_pick [0, 1, 2, 3, 4, 5, 6, 7, 8, 9, 10, 11] hls ?_
      refine z_iload (q := 498) (i := 11) dL_isSo_496 rfl rfl ?_
      refine z_iconst (q := 499) (v := nI 5) dL_isSo_498 (by rfl) rfl ?_
      refine z_aload_n (q := 500) dL_isSo_499 rfl rfl rfl ?_
      refine z_iconst (q := 501) (v := nI 2) dL_isSo_500 (by rfl) rfl ?_
      refine z_ialdV (q := 502) _ (by with_reducible assumption) (rfl) (by omega) (by decide) (g2) dL_isSo_501 rfl ?_
      refine z_imulE (q := 503) dL_isSo_502 (pk_mul _ _) rfl ?_
      refine z_icmpn_ge (rfl) (rfl) (by omega) (by omega) (tgt := 544) (q := 506) dL_isSo_503 (by decide) rfl (fun hc => absurd hc (by omega)) (fun _ => ?_)
      refine z_iload (q := 508) (i := 10) dL_isSo_506 rfl rfl ?_
      refine z_if_eq (tgt := 544) (q := 511) dL_isSo_508 (by decide) rfl (fun hc => False.elim (absurd hc (by decide))) (fun _ => ?_)
      refine z_aload_n (q := 512) dL_isSo_511 rfl rfl rfl ?_
      refine z_iload (q := 514) (i := 11) dL_isSo_512 rfl rfl ?_
      refine z_iconst (q := 515) (v := nI 5) dL_isSo_514 (by rfl) rfl ?_
      refine z_idivE (q := 516) dL_isSo_515 (by decide) (pk_div (by omega) (by decide) (by decide)) rfl ?_
      refine z_iload (q := 518) (i := 11) dL_isSo_516 rfl rfl ?_
      refine z_iconst (q := 519) (v := nI 5) dL_isSo_518 (by rfl) rfl ?_
      refine z_iremE (q := 520) dL_isSo_519 (by decide) (pk_rem (by omega) (by decide) (by decide)) rfl ?_
      refine z_invV (q := 523) (hpq) (by with_reducible assumption) rfl gL_isSo_X7_plan rfl hy_X7_plan rfl rfl rfl rfl (Nat.le_of_ble_eq_true rfl) ⟨Nat.zero_le _, Nat.zero_le _⟩ dL_isSo_520 rfl (z_rv ?_)
      refine z_aload (q := 525) dL_isSo_523 rfl rfl ?_
      refine z_iload (q := 527) (i := 11) dL_isSo_525 rfl rfl ?_
      refine z_ialdV (q := 528) _ (by with_reducible assumption) (rfl) (by omega) (by decide) (ei) dL_isSo_527 rfl ?_
      refine z_icmp_ne (tgt := 535) (q := 531) dL_isSo_528 (by decide) rfl (fun hc => False.elim (hc rfl)) (fun _ => ?_)
      refine z_iconst (q := 532) (v := nI 1) dL_isSo_531 (by rfl) rfl ?_
      refine z_goto (q := 536) dL_isSo_532 (by decide) ?_
      refine z_istore (q := 538) dL_isSo_536 (by decide) rfl ?_
      refine z_iinc (q := 541) dL_isSo_538 rfl (nI_add _ 1) (by decide) rfl ?_
      refine z_goto (q := 496) dL_isSo_541 (by decide) ?_
      exact ih _ rfl
  intro ls hls
  refine z_pick [0, 1, 2, 3, 4, 5, 6, 7, 8, 9, 10] hls ?_
  refine z_iconst (q := 494) (v := nI 0) dL_isSo_493 (by rfl) rfl ?_
  refine z_istore (q := 496) dL_isSo_494 (by decide) rfl ?_
  exact loop 0 (Nat.zero_le _) _ rfl
set_option maxRecDepth 100000 in
set_option maxHeartbeats 4000000 in
theorem so_counts {G : zG} {n : Nat} {T : zTT} {I : zII} {R : zRR} (x b nr nd np st Bu pc : Nat) (W : Int) (g : Nat → Int32) (p : Nat → Nat → Int32) (hT : LT T b) (hS : z_St T R I x g p pc (fun _ => 0) 0) (hL : LWP I b np g (planL g np)) (hH : PH nr nd np st Bu W g) (hst : st ≤ 5000) : ∀ ls : List (Nat × Value), lv_pick ls [0, 1, 2, 3, 4, 5, 6, 7, 8, 9, 10] = [(0, .ref x), (1, .ref b), (2, .ref (b + 1)), (3, .ref (b + 2)), (4, .ref (b + 3)), (5, .ref (b + 4)), (6, .int (sumI (fun r => g (9 + 6 * r + 2)) nr)), (7, .int (sumI (fun r => g (9 + 6 * r + 3)) nr)), (8, .int (sumI (fun r => g (9 + 6 * r + 4)) nr)), (9, .int (sumI (fun d => sumI (fun j => g (177 + 12 * d + j)) 12) nd)), (10, .int (nI 1))] → z_X G muL_isSo (3, 0, 0) (z_ret (some (.int 1)) n T I R) n T I R 0 0 544 ls [] := by
  have hTx := hS.1.1
  have hTg := hT.1
  have hTr := hT.2.1
  have hTd := hT.2.2.1
  have hTy := hT.2.2.2.1
  have hTp := hT.2.2.2.2.1
  have hI := hH.1
  have hPB := hH.2.2.2.2.1
  obtain ⟨h4, h4', h8⟩ := hH.2.1
  have g0 : I b 0 = nI nr := by rw [hL.1 0 (by decide) (by decide)]; exact hI.1.1
  have g1 : I b 1 = nI nd := by rw [hL.1 1 (by decide) (by decide)]; exact hI.2.1.1
  have g2 : I b 2 = nI np := hL.2.1
  have g3 : I b 3 = nI st := by rw [hL.1 3 (by decide) (by decide)]; exact hI.2.2.2.1
  have g4 : I b 4 = g 4 := hL.1 4 (by decide) (by decide)
  have g5 : I b 5 = g 5 := hL.1 5 (by decide) (by decide)
  have g6 : I b 6 = g 6 := hL.1 6 (by decide) (by decide)
  have g7 : I b 7 = g 7 := hL.1 7 (by decide) (by decide)
  have g8 : I b 8 = g 8 := hL.1 8 (by decide) (by decide)
  have hcq : ∀ w, w ≤ 21 → Ct G yX7_count wsX7_count (2, 0, 0) [.ref x, .int (nI w)] n T I R (z_ret (some (.int (cntQ g (nI pc) (nI 0) w))) n T I R) := by
    intro w hw
    have h := c_X7_count G (n := n) x pc 0 g (fun _ => 0) p hS (nI w)
    rw [sp_count, if_neg (nI_r (Nat.zero_le _) hw (by omega)), nI_clamp (by omega)] at h
    exact h
  have gn0 : gN g 0 = nr := gN_of hI.1.1 (by omega)
  have gn1 : gN g 1 = nd := gN_of hI.2.1.1 (by omega)
  have hall := all_so hI hPB
  have hpl : Ct G yX7_plan wsX7_plan (1, 0, 0) [.ref x, .int (nI np), .int (nI 0)] n T I R (z_ret (some (.int (-4))) n T I R) := by
    have h := c_X7_plan G (n := n) x pc 0 g (fun _ => 0) p hS (nI np) (nI 0)
    rw [sp_plan, if_neg (nI_pos (by omega)), if_neg (nI_r (Nat.zero_le _) (by decide) (by omega)), hI.2.2.1.1, if_neg (nI_nlt (Nat.le_refl _) (by omega))] at h
    exact h
  have hro : Ct G yX7_roomOf wsX7_roomOf (2, 0, 0) [.ref x, .int (nI nr), .int (nI 0)] n T I R (z_ret (some (.int (-1))) n T I R) := by
    have h := c_X7_roomOf G (n := n) x pc 0 g (fun _ => 0) p hS (nI nr) (nI 0)
    rw [sp_roomOf, if_pos (Or.inr (by rw [hI.1.1]; exact nI_le (Nat.le_refl _) (by omega)))] at h
    exact h
  have hdo : Ct G yX7_doorOf wsX7_doorOf (2, 0, 0) [.ref x, .int (nI nd), .int (nI 0)] n T I R (z_ret (some (.int (-1))) n T I R) := by
    have h := c_X7_doorOf G (n := n) x pc 0 g (fun _ => 0) p hS (nI nd) (nI 0)
    rw [sp_doorOf, if_pos (Or.inr (by rw [hI.2.1.1]; exact nI_le (Nat.le_refl _) (by omega)))] at h
    exact h
  intro ls hls
  refine z_pick [0, 1, 2, 3, 4, 5, 6, 7, 8, 9, 10] hls ?_
  refine z_iload (q := 546) (i := 6) dL_isSo_544 rfl rfl ?_
  refine z_iload (q := 548) (i := 9) dL_isSo_546 rfl rfl ?_
  refine z_iadd (q := 549) dL_isSo_548 rfl ?_
  refine z_iload (q := 551) (i := 7) dL_isSo_549 rfl rfl ?_
  refine z_iadd (q := 552) dL_isSo_551 rfl ?_
  refine z_aload_n (q := 553) dL_isSo_552 rfl rfl rfl ?_
  refine z_iconst (q := 554) (v := nI 4) dL_isSo_553 (by rfl) rfl ?_
  refine z_ialdV (q := 555) _ (by with_reducible assumption) (rfl) (by omega) (by decide) (g4) dL_isSo_554 rfl ?_
  refine z_iadd (q := 556) dL_isSo_555 rfl ?_
  refine z_iload (q := 558) (i := 8) dL_isSo_556 rfl rfl ?_
  refine z_icmp_ne (tgt := 565) (q := 561) dL_isSo_558 (by decide) rfl (fun hc => False.elim (hc hall)) (fun _ => ?_)
  refine z_iconst (q := 562) (v := nI 1) dL_isSo_561 (by rfl) rfl ?_
  refine z_goto (q := 566) dL_isSo_562 (by decide) ?_
  refine z_istore (q := 568) dL_isSo_566 (by decide) rfl ?_
  refine z_iload (q := 570) (i := 10) dL_isSo_568 rfl rfl ?_
  refine z_if_eq (tgt := 619) (q := 573) dL_isSo_570 (by decide) rfl (fun hc => False.elim (absurd hc (by decide))) (fun _ => ?_)
  refine z_iload (q := 575) (i := 11) dL_isSo_573 rfl rfl ?_
  refine z_if_eq (tgt := 619) (q := 578) dL_isSo_575 (by decide) rfl (fun hc => False.elim (absurd hc (by decide))) (fun _ => ?_)
  refine z_aload_n (q := 579) dL_isSo_578 rfl rfl rfl ?_
  refine z_aload_n (q := 580) dL_isSo_579 rfl rfl rfl ?_
  refine z_iconst (q := 581) (v := nI 2) dL_isSo_580 (by rfl) rfl ?_
  refine z_ialdV (q := 582) _ (by with_reducible assumption) (rfl) (by omega) (by decide) (g2) dL_isSo_581 rfl ?_
  refine z_iconst (q := 583) (v := nI 0) dL_isSo_582 (by rfl) rfl ?_
  refine z_invV (q := 586) (hpl) (by with_reducible assumption) rfl gL_isSo_X7_plan rfl hy_X7_plan rfl rfl rfl rfl (Nat.le_of_ble_eq_true rfl) ⟨Nat.zero_le _, Nat.zero_le _⟩ dL_isSo_583 rfl (z_rv ?_)
  refine z_bipush (q := 588) (v := (-4)) dL_isSo_586 (by rfl) rfl ?_
  refine z_icmp_ne (tgt := 619) (q := 591) dL_isSo_588 (by decide) rfl (fun hc => False.elim (hc rfl)) (fun _ => ?_)
  refine z_aload_n (q := 592) dL_isSo_591 rfl rfl rfl ?_
  refine z_aload_n (q := 593) dL_isSo_592 rfl rfl rfl ?_
  refine z_iconst (q := 594) (v := nI 0) dL_isSo_593 (by rfl) rfl ?_
  refine z_ialdV (q := 595) _ (by with_reducible assumption) (rfl) (by omega) (by decide) (g0) dL_isSo_594 rfl ?_
  refine z_iconst (q := 596) (v := nI 0) dL_isSo_595 (by rfl) rfl ?_
  refine z_invV (q := 599) (hro) (by with_reducible assumption) rfl gL_isSo_X7_roomOf rfl hy_X7_roomOf rfl rfl rfl rfl (Nat.le_of_ble_eq_true rfl) ⟨Nat.zero_le _, Nat.zero_le _⟩ dL_isSo_596 rfl (z_rv ?_)
  refine z_iconst (q := 600) (v := (-1)) dL_isSo_599 (by rfl) rfl ?_
  refine z_icmp_ne (tgt := 619) (q := 603) dL_isSo_600 (by decide) rfl (fun hc => False.elim (hc rfl)) (fun _ => ?_)
  refine z_aload_n (q := 604) dL_isSo_603 rfl rfl rfl ?_
  refine z_aload_n (q := 605) dL_isSo_604 rfl rfl rfl ?_
  refine z_iconst (q := 606) (v := nI 1) dL_isSo_605 (by rfl) rfl ?_
  refine z_ialdV (q := 607) _ (by with_reducible assumption) (rfl) (by omega) (by decide) (g1) dL_isSo_606 rfl ?_
  refine z_iconst (q := 608) (v := nI 0) dL_isSo_607 (by rfl) rfl ?_
  refine z_invV (q := 611) (hdo) (by with_reducible assumption) rfl gL_isSo_X7_doorOf rfl hy_X7_doorOf rfl rfl rfl rfl (Nat.le_of_ble_eq_true rfl) ⟨Nat.zero_le _, Nat.zero_le _⟩ dL_isSo_608 rfl (z_rv ?_)
  refine z_iconst (q := 612) (v := (-1)) dL_isSo_611 (by rfl) rfl ?_
  refine z_icmp_ne (tgt := 619) (q := 615) dL_isSo_612 (by decide) rfl (fun hc => False.elim (hc rfl)) (fun _ => ?_)
  refine z_iconst (q := 616) (v := nI 1) dL_isSo_615 (by rfl) rfl ?_
  refine z_goto (q := 620) dL_isSo_616 (by decide) ?_
  refine z_istore (q := 622) dL_isSo_620 (by decide) rfl ?_
  refine z_iload (q := 624) (i := 10) dL_isSo_622 rfl rfl ?_
  refine z_if_eq (tgt := 789) (q := 627) dL_isSo_624 (by decide) rfl (fun hc => False.elim (absurd hc (by decide))) (fun _ => ?_)
  refine z_aload_n (q := 628) dL_isSo_627 rfl rfl rfl ?_
  refine z_iconst (q := 629) (v := nI 0) dL_isSo_628 (by rfl) rfl ?_
  refine z_invV (q := 632) (hcq 0 (by decide)) (by with_reducible assumption) rfl gL_isSo_X7_count rfl hy_X7_count rfl rfl rfl rfl (Nat.le_of_ble_eq_true rfl) ⟨Nat.zero_le _, Nat.zero_le _⟩ dL_isSo_629 rfl (z_rv ?_)
  refine z_aload_n (q := 633) dL_isSo_632 rfl rfl rfl ?_
  refine z_iconst (q := 634) (v := nI 0) dL_isSo_633 (by rfl) rfl ?_
  refine z_ialdV (q := 635) _ (by with_reducible assumption) (rfl) (by omega) (by decide) (g0) dL_isSo_634 rfl ?_
  refine z_icmp_ne (tgt := 789) (q := 638) dL_isSo_635 (by decide) rfl (fun hc => False.elim (hc hI.1.1)) (fun _ => ?_)
  refine z_aload_n (q := 639) dL_isSo_638 rfl rfl rfl ?_
  refine z_iconst (q := 640) (v := nI 1) dL_isSo_639 (by rfl) rfl ?_
  refine z_invV (q := 643) (hcq 1 (by decide)) (by with_reducible assumption) rfl gL_isSo_X7_count rfl hy_X7_count rfl rfl rfl rfl (Nat.le_of_ble_eq_true rfl) ⟨Nat.zero_le _, Nat.zero_le _⟩ dL_isSo_640 rfl (z_rv ?_)
  refine z_aload_n (q := 644) dL_isSo_643 rfl rfl rfl ?_
  refine z_iconst (q := 645) (v := nI 1) dL_isSo_644 (by rfl) rfl ?_
  refine z_ialdV (q := 646) _ (by with_reducible assumption) (rfl) (by omega) (by decide) (g1) dL_isSo_645 rfl ?_
  refine z_icmp_ne (tgt := 789) (q := 649) dL_isSo_646 (by decide) rfl (fun hc => False.elim (hc hI.2.1.1)) (fun _ => ?_)
  refine z_aload_n (q := 650) dL_isSo_649 rfl rfl rfl ?_
  refine z_iconst (q := 651) (v := nI 2) dL_isSo_650 (by rfl) rfl ?_
  refine z_invV (q := 654) (hcq 2 (by decide)) (by with_reducible assumption) rfl gL_isSo_X7_count rfl hy_X7_count rfl rfl rfl rfl (Nat.le_of_ble_eq_true rfl) ⟨Nat.zero_le _, Nat.zero_le _⟩ dL_isSo_651 rfl (z_rv ?_)
  refine z_aload_n (q := 655) dL_isSo_654 rfl rfl rfl ?_
  refine z_iconst (q := 656) (v := nI 2) dL_isSo_655 (by rfl) rfl ?_
  refine z_ialdV (q := 657) _ (by with_reducible assumption) (rfl) (by omega) (by decide) (g2) dL_isSo_656 rfl ?_
  refine z_icmp_ne (tgt := 789) (q := 660) dL_isSo_657 (by decide) rfl (fun hc => False.elim (hc hI.2.2.1.1)) (fun _ => ?_)
  refine z_aload_n (q := 661) dL_isSo_660 rfl rfl rfl ?_
  refine z_iconst (q := 662) (v := nI 3) dL_isSo_661 (by rfl) rfl ?_
  refine z_invV (q := 665) (hcq 3 (by decide)) (by with_reducible assumption) rfl gL_isSo_X7_count rfl hy_X7_count rfl rfl rfl rfl (Nat.le_of_ble_eq_true rfl) ⟨Nat.zero_le _, Nat.zero_le _⟩ dL_isSo_662 rfl (z_rv ?_)
  refine z_aload_n (q := 666) dL_isSo_665 rfl rfl rfl ?_
  refine z_iconst (q := 667) (v := nI 3) dL_isSo_666 (by rfl) rfl ?_
  refine z_ialdV (q := 668) _ (by with_reducible assumption) (rfl) (by omega) (by decide) (g3) dL_isSo_667 rfl ?_
  refine z_icmp_ne (tgt := 789) (q := 671) dL_isSo_668 (by decide) rfl (fun hc => False.elim (hc hI.2.2.2.1)) (fun _ => ?_)
  refine z_aload_n (q := 672) dL_isSo_671 rfl rfl rfl ?_
  refine z_iconst (q := 673) (v := nI 4) dL_isSo_672 (by rfl) rfl ?_
  refine z_invV (q := 676) (hcq 4 (by decide)) (by with_reducible assumption) rfl gL_isSo_X7_count rfl hy_X7_count rfl rfl rfl rfl (Nat.le_of_ble_eq_true rfl) ⟨Nat.zero_le _, Nat.zero_le _⟩ dL_isSo_673 rfl (z_rv ?_)
  refine z_iload (q := 678) (i := 6) dL_isSo_676 rfl rfl ?_
  refine z_icmp_ne (tgt := 789) (q := 681) dL_isSo_678 (by decide) rfl (fun hc => False.elim (hc (by show allR g 2 = _; rw [allR, gn0]))) (fun _ => ?_)
  refine z_aload_n (q := 682) dL_isSo_681 rfl rfl rfl ?_
  refine z_iconst (q := 683) (v := nI 5) dL_isSo_682 (by rfl) rfl ?_
  refine z_invV (q := 686) (hcq 5 (by decide)) (by with_reducible assumption) rfl gL_isSo_X7_count rfl hy_X7_count rfl rfl rfl rfl (Nat.le_of_ble_eq_true rfl) ⟨Nat.zero_le _, Nat.zero_le _⟩ dL_isSo_683 rfl (z_rv ?_)
  refine z_iload (q := 688) (i := 9) dL_isSo_686 rfl rfl ?_
  refine z_icmp_ne (tgt := 789) (q := 691) dL_isSo_688 (by decide) rfl (fun hc => False.elim (hc (by show allW g = _; rw [allW, gn1]))) (fun _ => ?_)
  refine z_aload_n (q := 692) dL_isSo_691 rfl rfl rfl ?_
  refine z_bipush (q := 694) (v := nI 6) dL_isSo_692 (by rfl) rfl ?_
  refine z_invV (q := 697) (hcq 6 (by decide)) (by with_reducible assumption) rfl gL_isSo_X7_count rfl hy_X7_count rfl rfl rfl rfl (Nat.le_of_ble_eq_true rfl) ⟨Nat.zero_le _, Nat.zero_le _⟩ dL_isSo_694 rfl (z_rv ?_)
  refine z_iload (q := 699) (i := 7) dL_isSo_697 rfl rfl ?_
  refine z_icmp_ne (tgt := 789) (q := 702) dL_isSo_699 (by decide) rfl (fun hc => False.elim (hc (by show allR g 3 = _; rw [allR, gn0]))) (fun _ => ?_)
  refine z_aload_n (q := 703) dL_isSo_702 rfl rfl rfl ?_
  refine z_bipush (q := 705) (v := nI 7) dL_isSo_703 (by rfl) rfl ?_
  refine z_invV (q := 708) (hcq 7 (by decide)) (by with_reducible assumption) rfl gL_isSo_X7_count rfl hy_X7_count rfl rfl rfl rfl (Nat.le_of_ble_eq_true rfl) ⟨Nat.zero_le _, Nat.zero_le _⟩ dL_isSo_705 rfl (z_rv ?_)
  refine z_aload_n (q := 709) dL_isSo_708 rfl rfl rfl ?_
  refine z_iconst (q := 710) (v := nI 4) dL_isSo_709 (by rfl) rfl ?_
  refine z_ialdV (q := 711) _ (by with_reducible assumption) (rfl) (by omega) (by decide) (g4) dL_isSo_710 rfl ?_
  refine z_icmp_ne (tgt := 789) (q := 714) dL_isSo_711 (by decide) rfl (fun hc => False.elim (hc rfl)) (fun _ => ?_)
  refine z_aload_n (q := 715) dL_isSo_714 rfl rfl rfl ?_
  refine z_bipush (q := 717) (v := nI 8) dL_isSo_715 (by rfl) rfl ?_
  refine z_invV (q := 720) (hcq 8 (by decide)) (by with_reducible assumption) rfl gL_isSo_X7_count rfl hy_X7_count rfl rfl rfl rfl (Nat.le_of_ble_eq_true rfl) ⟨Nat.zero_le _, Nat.zero_le _⟩ dL_isSo_717 rfl (z_rv ?_)
  refine z_iload (q := 722) (i := 8) dL_isSo_720 rfl rfl ?_
  refine z_icmp_ne (tgt := 789) (q := 725) dL_isSo_722 (by decide) rfl (fun hc => False.elim (hc (by show allR g 4 = _; rw [allR, gn0]))) (fun _ => ?_)
  refine z_aload_n (q := 726) dL_isSo_725 rfl rfl rfl ?_
  refine z_bipush (q := 728) (v := nI 9) dL_isSo_726 (by rfl) rfl ?_
  refine z_invV (q := 731) (hcq 9 (by decide)) (by with_reducible assumption) rfl gL_isSo_X7_count rfl hy_X7_count rfl rfl rfl rfl (Nat.le_of_ble_eq_true rfl) ⟨Nat.zero_le _, Nat.zero_le _⟩ dL_isSo_728 rfl (z_rv ?_)
  refine z_aload_n (q := 732) dL_isSo_731 rfl rfl rfl ?_
  refine z_iconst (q := 733) (v := nI 5) dL_isSo_732 (by rfl) rfl ?_
  refine z_ialdV (q := 734) _ (by with_reducible assumption) (rfl) (by omega) (by decide) (g5) dL_isSo_733 rfl ?_
  refine z_icmp_ne (tgt := 789) (q := 737) dL_isSo_734 (by decide) rfl (fun hc => False.elim (hc rfl)) (fun _ => ?_)
  refine z_aload_n (q := 738) dL_isSo_737 rfl rfl rfl ?_
  refine z_bipush (q := 740) (v := nI 10) dL_isSo_738 (by rfl) rfl ?_
  refine z_invV (q := 743) (hcq 10 (by decide)) (by with_reducible assumption) rfl gL_isSo_X7_count rfl hy_X7_count rfl rfl rfl rfl (Nat.le_of_ble_eq_true rfl) ⟨Nat.zero_le _, Nat.zero_le _⟩ dL_isSo_740 rfl (z_rv ?_)
  refine z_aload_n (q := 744) dL_isSo_743 rfl rfl rfl ?_
  refine z_bipush (q := 746) (v := nI 6) dL_isSo_744 (by rfl) rfl ?_
  refine z_ialdV (q := 747) _ (by with_reducible assumption) (rfl) (by omega) (by decide) (g6) dL_isSo_746 rfl ?_
  refine z_icmp_ne (tgt := 789) (q := 750) dL_isSo_747 (by decide) rfl (fun hc => False.elim (hc rfl)) (fun _ => ?_)
  refine z_aload_n (q := 751) dL_isSo_750 rfl rfl rfl ?_
  refine z_bipush (q := 753) (v := nI 12) dL_isSo_751 (by rfl) rfl ?_
  refine z_invV (q := 756) (hcq 12 (by decide)) (by with_reducible assumption) rfl gL_isSo_X7_count rfl hy_X7_count rfl rfl rfl rfl (Nat.le_of_ble_eq_true rfl) ⟨Nat.zero_le _, Nat.zero_le _⟩ dL_isSo_753 rfl (z_rv ?_)
  refine z_if_ne (tgt := 789) (q := 759) dL_isSo_756 (by decide) rfl (fun hc => False.elim (hc nI_0)) (fun _ => ?_)
  refine z_aload_n (q := 760) dL_isSo_759 rfl rfl rfl ?_
  refine z_bipush (q := 762) (v := nI 20) dL_isSo_760 (by rfl) rfl ?_
  refine z_invV (q := 765) (hcq 20 (by decide)) (by with_reducible assumption) rfl gL_isSo_X7_count rfl hy_X7_count rfl rfl rfl rfl (Nat.le_of_ble_eq_true rfl) ⟨Nat.zero_le _, Nat.zero_le _⟩ dL_isSo_762 rfl (z_rv ?_)
  refine z_aload_n (q := 766) dL_isSo_765 rfl rfl rfl ?_
  refine z_bipush (q := 768) (v := nI 7) dL_isSo_766 (by rfl) rfl ?_
  refine z_ialdV (q := 769) _ (by with_reducible assumption) (rfl) (by omega) (by decide) (g7) dL_isSo_768 rfl ?_
  refine z_icmp_ne (tgt := 789) (q := 772) dL_isSo_769 (by decide) rfl (fun hc => False.elim (hc rfl)) (fun _ => ?_)
  refine z_aload_n (q := 773) dL_isSo_772 rfl rfl rfl ?_
  refine z_bipush (q := 775) (v := nI 21) dL_isSo_773 (by rfl) rfl ?_
  refine z_invV (q := 778) (hcq 21 (by decide)) (by with_reducible assumption) rfl gL_isSo_X7_count rfl hy_X7_count rfl rfl rfl rfl (Nat.le_of_ble_eq_true rfl) ⟨Nat.zero_le _, Nat.zero_le _⟩ dL_isSo_775 rfl (z_rv ?_)
  refine z_aload_n (q := 779) dL_isSo_778 rfl rfl rfl ?_
  refine z_bipush (q := 781) (v := nI 8) dL_isSo_779 (by rfl) rfl ?_
  refine z_ialdV (q := 782) _ (by with_reducible assumption) (rfl) (by omega) (by decide) (g8) dL_isSo_781 rfl ?_
  refine z_icmp_ne (tgt := 789) (q := 785) dL_isSo_782 (by decide) rfl (fun hc => False.elim (hc rfl)) (fun _ => ?_)
  refine z_iconst (q := 786) (v := nI 1) dL_isSo_785 (by rfl) rfl ?_
  refine z_goto (q := 790) dL_isSo_786 (by decide) ?_
  exact z_zret rfl (by rfl) dL_isSo_790 (Nat.zero_le _) (Nat.zero_le _) (⟨by rw [zI1], rfl, rfl, rfl, rfl⟩)
set_option maxRecDepth 100000 in
set_option maxHeartbeats 4000000 in
theorem c_L_isSo (G : zG) {n : Nat} {T : zTT} {I : zII} {R : zRR} (x b S B : Nat) (hT : LT T b) (hS : LST T R I x b S B) (hS5 : S ≤ 5000) : Ct G yL_isSo wsL_isSo (3, 0, 0) [.ref x, .ref b, .ref (b + 1), .ref (b + 2), .ref (b + 3), .ref (b + 4)] n T I R (z_ret (some (.int 1)) n T I R) := by
  refine Ct.ofX (M := muL_isSo) (ls := [(0, .ref x), (1, .ref b), (2, .ref (b + 1)), (3, .ref (b + 2)), (4, .ref (b + 3)), (5, .ref (b + 4))]) (by decide +kernel) rfl (by decide) rfl rfl (Nat.le_of_ble_eq_true rfl) ?_
  obtain ⟨g, p, pc, nr, nd, np, st, W, hS0, hL, hH, hstS⟩ := hS
  have hst : st ≤ 5000 := by omega
  refine so_rooms x b nr nd np st B pc W g p hT hS0 hL hH hst (fun ls hls => ?_)
  refine z_pick [0, 1, 2, 3, 4, 5, 6, 7, 8, 9, 10, 11] hls ?_
  refine so_doors x b nr nd np st B pc W g p hT hS0 hL hH hst _ _ _ (fun ls hls => ?_) _ rfl
  refine z_pick [0, 1, 2, 3, 4, 5, 6, 7, 8, 9, 10, 11] hls ?_
  refine so_plan x b nr nd np st B pc W g p hT hS0 hL hH hst _ _ _ _ (fun ls hls => ?_) _ rfl
  exact so_counts x b nr nd np st B pc W g p hT hS0 hL hH hst ls hls

