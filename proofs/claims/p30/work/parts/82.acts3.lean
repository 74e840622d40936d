/-! THE LAW's acts: targets, settings, sounds, entries taken away, steps -/
theorem put_at {I : zII} {b nr nd np st : Nat} {g : Nat → Int32} (hL : LWP I b np g (planL g np)) (hI : INV nr nd np st g) (t : Int32) : posF g t np 0 ≤ np ∧ (∀ j, posF g t np 0 ≤ j → j < np → t < I (b + 4) (5 * j)) ∧ (0 < posF g t np 0 → ¬ t < I (b + 4) (5 * (posF g t np 0 - 1))) := by
  have hp := put_pos hI (t := t)
  have hq := pos_le g t np
  have e : ∀ j, j < np → I (b + 4) (5 * j) = g (321 + 5 * j + 0) := fun j hj => congrArg (fun z : zE => z.1) (LW_ent hL hj)
  refine ⟨hq, fun j h1 h2 => by rw [e j h2]; exact hp.1 j h1 h2, fun h => ?_⟩
  rw [e _ (by omega)]
  exact hp.2 h
set_option maxRecDepth 100000 in
set_option maxHeartbeats 4000000 in
theorem act_target {G : zG} {n : Nat} {T : zTT} {I : zII} {R : zRR} (x b nr nd np st Bu pc v y S2 B2 : Nat) (W : Int) (z : Int32) (g : Nat → Int32) (p : Nat → Nat → Int32) (hb : b = x + 595) (hT : LT T b) (hS : z_St T R I x g p pc (fun _ => 0) 0) (hL : LWP I b np g (planL g np)) (hH : PH nr nd np st Bu W g) (hst : st ≤ 4000) (hv : v < 10000000) (hS2 : st ≤ S2) (hB2 : Bu ≤ B2) {a k t : Nat} (hk : k < nd) (ht : t ≤ 10) : ∀ ls : List (Nat × Value), lv_pick ls [0, 1, 2, 3, 4, 5, 6, 7, 8, 9, 10, 11, 12] = [(0, .ref x), (1, .ref b), (2, .ref (b + 1)), (3, .ref (b + 2)), (4, .ref (b + 3)), (5, .ref (b + 4)), (6, .ref (b + 5)), (7, .int z), (8, .int (nI v)), (9, .int (nI y)), (10, .int (nI a)), (11, .int (nI k)), (12, .int (nI t))] → z_X G muL_acts (6, 6, 54) (actQ n T x b S2 B2) n T I R 0 0 955 ls [] := by
  have hTx := hS.1.1
  have hTg := hT.1
  have hTr := hT.2.1
  have hTd := hT.2.2.1
  have hTy := hT.2.2.2.1
  have hTp := hT.2.2.2.2.1
  have hI := hH.1
  obtain ⟨h4, h4', h8⟩ := hH.2.1
  have g0 : I b 0 = nI nr := by rw [hL.1 0 (by decide) (by decide)]; exact hI.1.1
  have g1 : I b 1 = nI nd := by rw [hL.1 1 (by decide) (by decide)]; exact hI.2.1.1
  have g2 : I b 2 = nI np := hL.2.1
  have g3 : I b 3 = nI st := by rw [hL.1 3 (by decide) (by decide)]; exact hI.2.2.2.1
  have hkc : (nI k).toNatClampNeg = k := nI_clamp (by omega)
  have hx1 : ¬ (nI k < 0 ∨ g 1 ≤ nI k) := by rw [hI.2.1.1]; exact nI_i hk (by omega)
  intro ls hls
  refine z_pick [0, 1, 2, 3, 4, 5, 6, 7, 8, 9, 10, 11, 12] hls ?_
  refine z_aload_n (q := 956) dL_acts_955 rfl rfl rfl ?_
  refine z_iconst (q := 957) (v := nI 3) dL_acts_956 (by rfl) rfl ?_
  refine z_ialdV (q := 958) _ (by with_reducible assumption) (rfl) (by omega) (by decide) (g3) dL_acts_957 rfl ?_
  refine z_iload (q := 960) (i := 8) dL_acts_958 rfl rfl ?_
  refine z_bipush (q := 962) (v := nI 44) dL_acts_960 (by rfl) rfl ?_
  refine z_idivE (q := 963) dL_acts_962 (by decide) (pk_div (by omega) (by decide) (by decide)) rfl ?_
  refine z_iconst (q := 964) (v := nI 5) dL_acts_963 (by rfl) rfl ?_
  refine z_iremE (q := 965) dL_acts_964 (by decide) (pk_rem (by omega) (by decide) (by decide)) rfl ?_
  refine z_iaddE (q := 966) dL_acts_965 (nI_add _ _) rfl ?_
  refine z_istore (q := 968) dL_acts_966 (by decide) rfl ?_
  refine z_aload_n (q := 969) dL_acts_968 rfl rfl rfl ?_
  refine z_iconst (q := 970) (v := nI 2) dL_acts_969 (by rfl) rfl ?_
  refine z_ialdV (q := 971) _ (by with_reducible assumption) (rfl) (by omega) (by decide) (g2) dL_acts_970 rfl ?_
  refine z_bipush (q := 973) (v := nI 8) dL_acts_971 (by rfl) rfl ?_
  have hf : st ≤ st + v / 44 % 5 ∧ st + v / 44 % 5 ≤ st + 5 ∧ st + v / 44 % 5 ≤ 5000 := by omega
  generalize st + v / 44 % 5 = f at hf
  refine z_icmpn_eq (rfl) (rfl) (by omega) (by omega) (tgt := 984) (q := 976) dL_acts_973 (by decide) rfl (fun h973 => ?_) (fun h973 => ?_)
  · have hsp : sp_planDoor g (nI k) (nI f) (nI 11) = (-1, none) := by rw [sp_planDoor, if_neg hx1, if_neg (nI_r (Nat.zero_le _) hf.2.2 (by omega)), if_pos (Or.inr (by decide))]
    refine z_aload_n (q := 985) dL_acts_984 rfl rfl rfl ?_
    refine z_iload (q := 987) (i := 11) dL_acts_985 rfl rfl ?_
    refine z_iload (q := 989) (i := 13) dL_acts_987 rfl rfl ?_
    refine z_bipush (q := 991) (v := nI 11) dL_acts_989 (by rfl) rfl ?_
    refine z_invV (q := 994) (call_none (c_X7_planDoor G x pc 0 g (fun _ => 0) p hS (nI k) (nI f) (nI 11)) hsp) (by with_reducible assumption) rfl gL_acts_X7_planDoor rfl hy_X7_planDoor rfl rfl rfl rfl (Nat.le_of_ble_eq_true rfl) ⟨Nat.zero_le _, Nat.zero_le _⟩ dL_acts_991 rfl (z_rvR fun I2 R2 hZ => ?_)
    refine z_iconst (q := 995) (v := (-1)) dL_acts_994 (by rfl) rfl ?_
    obtain ⟨hSa, hfa⟩ := hZ
    refine z_icmp_ne (tgt := 1002) (q := 998) dL_acts_995 (by decide) rfl (fun hc => False.elim (hc rfl)) (fun _ => ?_)
    refine z_iconst (q := 999) (v := nI 1) dL_acts_998 (by rfl) rfl ?_
    refine z_goto (q := 1003) dL_acts_999 (by decide) ?_
    exact z_zret rfl (by rfl) dL_acts_1003 (by decide) (by decide) (⟨by rw [zI1], Nat.le_refl _, rfl, g, p, pc, nr, nd, np, st, W, hSa, LP_x hb hL hfa, PH_mono hH hB2, hS2⟩)
  · refine z_iload (q := 978) (i := 13) dL_acts_976 rfl rfl ?_
    refine z_sipush (q := 981) (v := nI 5000) dL_acts_978 (by rfl) rfl ?_
    refine z_icmpn_le (rfl) (rfl) (by omega) (by omega) (tgt := 1004) (q := 984) dL_acts_981 (by decide) rfl (fun _ => ?_) (fun hc => absurd hc (by omega))
    have hpos := put_at hL hI (nI f)
    have hH' := PH_target hH (by omega) hf.1 hf.2.1 hf.2.2 hk ht
    have hsp : sp_planDoor g (nI k) (nI f) (nI t) = (nI (np + 1), some (putG g np (nI f) (nI 1) (nI k) (nI 0) (nI t))) := by
      rw [sp_planDoor, if_neg hx1, if_neg (nI_r (Nat.zero_le _) hf.2.2 (by omega)), if_neg (nI_r (Nat.zero_le _) ht (by omega)), targQ, hI.2.2.2.1, if_neg (nI_nlt hf.1 (by omega)), gN_of hI.2.2.1.1 (by omega), if_neg (by omega), putG_2 hI.2.2.1.1]
    refine z_aload_n (q := 1005) dL_acts_1004 rfl rfl rfl ?_
    refine z_aload (q := 1007) dL_acts_1005 rfl rfl ?_
    refine z_iload (q := 1009) (i := 13) dL_acts_1007 rfl rfl ?_
    refine z_iconst (q := 1010) (v := nI 1) dL_acts_1009 (by rfl) rfl ?_
    refine z_iload (q := 1012) (i := 11) dL_acts_1010 rfl rfl ?_
    refine z_iconst (q := 1013) (v := nI 0) dL_acts_1012 (by rfl) rfl ?_
    refine z_iload (q := 1015) (i := 12) dL_acts_1013 rfl rfl ?_
    refine z_invS (q := 1018) (c_L_puts G b (b + 4) np (posF g (nI f) np 0) (nI f) (nI 1) (nI k) (nI 0) (nI t) hTg hTp (by omega) g2 (by omega) hpos.1 hpos.2.1 hpos.2.2) gL_acts_L_puts rfl hy_L_puts rfl rfl rfl rfl (Nat.le_of_ble_eq_true rfl) ⟨Nat.zero_le _, Nat.zero_le _⟩ dL_acts_1015 rfl (z_rnR fun I2 R2 hZ => ?_)
    obtain ⟨rfl, z1, z2, z3⟩ := hZ
    have l1 := LP_put hL (by omega) hI.2.2.1.1 z1 z2 z3
    have s1 : z_St T R2 I2 x g p pc (fun _ => 0) 0 := St_f hS (fun q j1 j2 => ⟨z3 q (by omega) (by omega), rfl⟩)
    refine z_aload_n (q := 1019) dL_acts_1018 rfl rfl rfl ?_
    refine z_iload (q := 1021) (i := 11) dL_acts_1019 rfl rfl ?_
    refine z_iload (q := 1023) (i := 13) dL_acts_1021 rfl rfl ?_
    refine z_iload (q := 1025) (i := 12) dL_acts_1023 rfl rfl ?_
    refine z_invV (q := 1028) (call_some (c_X7_planDoor G x pc 0 g (fun _ => 0) p s1 (nI k) (nI f) (nI t)) hsp) (by with_reducible assumption) rfl gL_acts_X7_planDoor rfl hy_X7_planDoor rfl rfl rfl rfl (Nat.le_of_ble_eq_true rfl) ⟨Nat.zero_le _, Nat.zero_le _⟩ dL_acts_1025 rfl (z_rvR fun I3 R3 hZ => ?_)
    obtain ⟨hSa, hfa⟩ := hZ
    have l2 := LP_x hb l1 hfa
    refine z_aload_n (q := 1029) dL_acts_1028 rfl rfl rfl ?_
    refine z_iconst (q := 1030) (v := nI 2) dL_acts_1029 (by rfl) rfl ?_
    refine z_ialdV (q := 1031) _ (by with_reducible assumption) (rfl) (by omega) (by decide) (l2.2.1) dL_acts_1030 rfl ?_
    refine z_icmp_ne (tgt := 1038) (q := 1034) dL_acts_1031 (by decide) rfl (fun hc => False.elim (hc rfl)) (fun _ => ?_)
    refine z_iconst (q := 1035) (v := nI 1) dL_acts_1034 (by rfl) rfl ?_
    refine z_goto (q := 1039) dL_acts_1035 (by decide) ?_
    exact z_zret rfl (by rfl) dL_acts_1039 (by decide) (by decide) (⟨by rw [zI1], Nat.le_refl _, rfl, _, _, _, nr, nd, np + 1, st, W, hSa, l2, PH_mono hH' hB2, hS2⟩)
set_option maxRecDepth 100000 in
set_option maxHeartbeats 4000000 in
theorem act_set {G : zG} {n : Nat} {T : zTT} {I : zII} {R : zRR} (x b nr nd np st Bu pc v y S2 B2 : Nat) (W : Int) (z : Int32) (g : Nat → Int32) (p : Nat → Nat → Int32) (hb : b = x + 595) (hT : LT T b) (hS : z_St T R I x g p pc (fun _ => 0) 0) (hL : LWP I b np g (planL g np)) (hH : PH nr nd np st Bu W g) (hst : st ≤ 4000) (hv : v < 10000000) (hS2 : st ≤ S2) (hB2 : Bu ≤ B2) {a : Nat} : ∀ ls : List (Nat × Value), lv_pick ls [0, 1, 2, 3, 4, 5, 6, 7, 8, 9, 10] = [(0, .ref x), (1, .ref b), (2, .ref (b + 1)), (3, .ref (b + 2)), (4, .ref (b + 3)), (5, .ref (b + 4)), (6, .ref (b + 5)), (7, .int z), (8, .int (nI v)), (9, .int (nI y)), (10, .int (nI a))] → z_X G muL_acts (6, 6, 54) (actQ n T x b S2 B2) n T I R 0 0 1047 ls [] := by
  have hTx := hS.1.1
  have hTg := hT.1
  have hTr := hT.2.1
  have hTd := hT.2.2.1
  have hTy := hT.2.2.2.1
  have hTp := hT.2.2.2.2.1
  have hI := hH.1
  obtain ⟨h4, h4', h8⟩ := hH.2.1
  have g0 : I b 0 = nI nr := by rw [hL.1 0 (by decide) (by decide)]; exact hI.1.1
  have g1 : I b 1 = nI nd := by rw [hL.1 1 (by decide) (by decide)]; exact hI.2.1.1
  have g2 : I b 2 = nI np := hL.2.1
  have g3 : I b 3 = nI st := by rw [hL.1 3 (by decide) (by decide)]; exact hI.2.2.2.1
  obtain ⟨s7, hs7, hs7'⟩ := hH.2.2.2.2.2.1
  have hw : v % 2 < 2 := by omega
  intro ls hls
  refine z_pick [0, 1, 2, 3, 4, 5, 6, 7, 8, 9, 10] hls ?_
  refine z_iload (q := 1049) (i := 8) dL_acts_1047 rfl rfl ?_
  refine z_iconst (q := 1050) (v := nI 2) dL_acts_1049 (by rfl) rfl ?_
  refine z_iremE (q := 1051) dL_acts_1050 (by decide) (pk_rem (by omega) (by decide) (by decide)) rfl ?_
  refine z_istore (q := 1053) dL_acts_1051 (by decide) rfl ?_
  generalize v % 2 = w at hw
  have hgw : I b (7 + w) = g (7 + w) := hL.1 _ (by omega) (by omega)
  have next : ∀ s : Nat, s ≤ 1000000 → ∀ ls : List (Nat × Value), lv_pick ls [0, 1, 2, 3, 4, 5, 6, 7, 8, 9, 10, 11, 12] = [(0, .ref x), (1, .ref b), (2, .ref (b + 1)), (3, .ref (b + 2)), (4, .ref (b + 3)), (5, .ref (b + 4)), (6, .ref (b + 5)), (7, .int z), (8, .int (nI v)), (9, .int (nI y)), (10, .int (nI a)), (11, .int (nI w)), (12, .int (g (7 + w)))] → z_X G muL_acts (6, 6, 54) (actQ n T x b S2 B2) n T I R 0 0 1087 ls [.int (nI s), .int (nI (7 + w)), .ref b] := by
    intro s hs ls hls
    have hwc : (nI w).toNatClampNeg = w := nI_clamp (by omega)
    have h1e6 : (1000000 : Int32) = nI 1000000 := by decide
    have hsp : sp_set g (nI w) (nI s) = (g (7 + w), some (upd g (7 + w) (nI s))) := by
      rw [sp_set, if_neg (nI_r (Nat.zero_le _) (show w ≤ 1 by omega) (by omega)), h1e6, if_neg (nI_r (Nat.zero_le _) hs (by omega)), hwc, setQ]
    have e : ∀ c, c ≠ 7 + w → upd g (7 + w) (nI s) c = g c := fun c hc => upd_n _ _ hc
    have hp : planL (upd g (7 + w) (nI s)) np = planL g np := planL_congr (fun j hj => ent_congr (fun i j1 j2 => e i (by omega)))
    have h7 : ∃ u : Nat, upd g (7 + w) (nI s) 7 = nI u ∧ u ≤ 1000000 := by
      by_cases hz : w = 0
      · subst hz; exact ⟨s, upd_s _ _ _, hs⟩
      · exact ⟨s7, by rw [e 7 (by omega)]; exact hs7, hs7'⟩
    have l1 := LP_g hL (c := 7 + w) (nI s) (by omega) (by omega)
    have s1 : z_St T R (zw I b (7 + w) (nI s)) x g p pc (fun _ => 0) 0 := St_f hS (fun q j1 j2 => ⟨zw_row _ _ (by omega), rfl⟩)
    have r1 : zw I b (7 + w) (nI s) b (7 + w) = nI s := zw_s _ _ _ _
    refine z_pick [0, 1, 2, 3, 4, 5, 6, 7, 8, 9, 10, 11, 12] hls ?_
    refine z_iast (q := 1088) _ (by with_reducible assumption) (rfl) (by omega) (by decide) dL_acts_1087 rfl ?_
    generalize zw I b (7 + w) (nI s) = I1 at l1 s1 r1
    refine z_aload_n (q := 1089) dL_acts_1088 rfl rfl rfl ?_
    refine z_iload (q := 1091) (i := 11) dL_acts_1089 rfl rfl ?_
    refine z_aload_n (q := 1092) dL_acts_1091 rfl rfl rfl ?_
    refine z_bipush (q := 1094) (v := nI 7) dL_acts_1092 (by rfl) rfl ?_
    refine z_iload (q := 1096) (i := 11) dL_acts_1094 rfl rfl ?_
    refine z_iaddE (q := 1097) dL_acts_1096 (nI_add _ _) rfl ?_
    refine z_ialdV (q := 1098) _ (by with_reducible assumption) (rfl) (by omega) (by decide) (r1) dL_acts_1097 rfl ?_
    refine z_invV (q := 1101) (call_some (c_X7_set G x pc 0 g (fun _ => 0) p s1 (nI w) (nI s)) hsp) (by with_reducible assumption) rfl gL_acts_X7_set rfl hy_X7_set rfl rfl rfl rfl (Nat.le_of_ble_eq_true rfl) ⟨Nat.zero_le _, Nat.zero_le _⟩ dL_acts_1098 rfl (z_rvR fun I2 R2 hZ => ?_)
    refine z_iload (q := 1103) (i := 12) dL_acts_1101 rfl rfl ?_
    obtain ⟨hSa, hfa⟩ := hZ
    refine z_icmp_ne (tgt := 1110) (q := 1106) dL_acts_1103 (by decide) rfl (fun hc => False.elim (hc rfl)) (fun _ => ?_)
    refine z_iconst (q := 1107) (v := nI 1) dL_acts_1106 (by rfl) rfl ?_
    refine z_goto (q := 1111) dL_acts_1107 (by decide) ?_
    have l2 := LP_x hb l1 hfa
    rw [← hp] at l2
    exact z_zret rfl (by rfl) dL_acts_1111 (by decide) (by decide) (⟨by rw [zI1], Nat.le_refl _, rfl, _, _, _, nr, nd, np, st, W, hSa, l2, PH_mono (PH_alike hH (INV_set hI hw (nI s)) h7 (fun c c7 c8 _ => e c (by omega))) hB2, hS2⟩)
  refine z_aload_n (q := 1054) dL_acts_1053 rfl rfl rfl ?_
  refine z_bipush (q := 1056) (v := nI 7) dL_acts_1054 (by rfl) rfl ?_
  refine z_iload (q := 1058) (i := 11) dL_acts_1056 rfl rfl ?_
  refine z_iaddE (q := 1059) dL_acts_1058 (nI_add _ _) rfl ?_
  refine z_ialdV (q := 1060) _ (by with_reducible assumption) (rfl) (by omega) (by decide) (hgw) dL_acts_1059 rfl ?_
  refine z_istore (q := 1062) dL_acts_1060 (by decide) rfl ?_
  refine z_aload_n (q := 1063) dL_acts_1062 rfl rfl rfl ?_
  refine z_bipush (q := 1065) (v := nI 7) dL_acts_1063 (by rfl) rfl ?_
  refine z_iload (q := 1067) (i := 11) dL_acts_1065 rfl rfl ?_
  refine z_iaddE (q := 1068) dL_acts_1067 (nI_add _ _) rfl ?_
  refine z_iload (q := 1070) (i := 8) dL_acts_1068 rfl rfl ?_
  refine z_iconst (q := 1071) (v := nI 2) dL_acts_1070 (by rfl) rfl ?_
  refine z_idivE (q := 1072) dL_acts_1071 (by decide) (pk_div (by omega) (by decide) (by decide)) rfl ?_
  refine z_iload (q := 1074) (i := 8) dL_acts_1072 rfl rfl ?_
  refine z_iconst (q := 1075) (v := nI 3) dL_acts_1074 (by rfl) rfl ?_
  refine z_iremE (q := 1076) dL_acts_1075 (by decide) (pk_rem (by omega) (by decide) (by decide)) rfl ?_
  refine z_if_ne (tgt := 1084) (q := 1079) dL_acts_1076 (by decide) rfl (fun h1076 => ?_) (fun h1076 => ?_)
  · refine z_bipush (q := 1086) (v := nI 50) dL_acts_1084 (by rfl) rfl ?_
    refine z_iremE (q := 1087) dL_acts_1086 (by decide) (pk_rem (by omega) (by decide) (by decide)) rfl ?_
    exact next _ (by omega) _ rfl
  · refine z_ldc (q := 1081) (i := 3) (v := 1000001) rfl dL_acts_1079 rfl ?_
    refine z_goto (q := 1086) dL_acts_1081 (by decide) ?_
    refine z_iremE (q := 1087) (v := nI (v / 2 % 1000001)) dL_acts_1086 (by decide) (pk_rem (d := 1000001) (by omega) (by decide) (by decide)) rfl ?_
    exact next _ (by omega) _ rfl
set_option maxRecDepth 100000 in
set_option maxHeartbeats 4000000 in
theorem act_cancel {G : zG} {n : Nat} {T : zTT} {I : zII} {R : zRR} (x b nr nd np st Bu pc v y S2 B2 : Nat) (W : Int) (z : Int32) (g : Nat → Int32) (p : Nat → Nat → Int32) (hb : b = x + 595) (hT : LT T b) (hS : z_St T R I x g p pc (fun _ => 0) 0) (hL : LWP I b np g (planL g np)) (hH : PH nr nd np st Bu W g) (hst : st ≤ 4000) (hv : v < 10000000) (hS2 : st ≤ S2) (hB2 : Bu + 240 ≤ B2) {a : Nat} : ∀ ls : List (Nat × Value), lv_pick ls [0, 1, 2, 3, 4, 5, 6, 7, 8, 9, 10] = [(0, .ref x), (1, .ref b), (2, .ref (b + 1)), (3, .ref (b + 2)), (4, .ref (b + 3)), (5, .ref (b + 4)), (6, .ref (b + 5)), (7, .int z), (8, .int (nI v)), (9, .int (nI y)), (10, .int (nI a))] → z_X G muL_acts (6, 6, 54) (actQ n T x b S2 B2) n T I R 0 0 1282 ls [] := by
  have hTx := hS.1.1
  have hTg := hT.1
  have hTr := hT.2.1
  have hTd := hT.2.2.1
  have hTy := hT.2.2.2.1
  have hTp := hT.2.2.2.2.1
  have hI := hH.1
  obtain ⟨h4, h4', h8⟩ := hH.2.1
  have g0 : I b 0 = nI nr := by rw [hL.1 0 (by decide) (by decide)]; exact hI.1.1
  have g1 : I b 1 = nI nd := by rw [hL.1 1 (by decide) (by decide)]; exact hI.2.1.1
  have g2 : I b 2 = nI np := hL.2.1
  have g3 : I b 3 = nI st := by rw [hL.1 3 (by decide) (by decide)]; exact hI.2.2.2.1
  intro ls hls
  refine z_pick [0, 1, 2, 3, 4, 5, 6, 7, 8, 9, 10] hls ?_
  refine z_aload_n (q := 1283) dL_acts_1282 rfl rfl rfl ?_
  refine z_iconst (q := 1284) (v := nI 2) dL_acts_1283 (by rfl) rfl ?_
  refine z_ialdV (q := 1285) _ (by with_reducible assumption) (rfl) (by omega) (by decide) (g2) dL_acts_1284 rfl ?_
  refine z_if_ne (tgt := 1303) (q := 1288) dL_acts_1285 (by decide) rfl (fun h1285 => ?_) (fun h1285 => ?_)
  · have hnp : 0 < np := Nat.pos_of_ne_zero (fun e => h1285 (by rw [e]; exact nI_0))
    have hk : v % np < np := Nat.mod_lt _ hnp
    refine z_iload (q := 1305) (i := 8) dL_acts_1303 rfl rfl ?_
    refine z_aload_n (q := 1306) dL_acts_1305 rfl rfl rfl ?_
    refine z_iconst (q := 1307) (v := nI 2) dL_acts_1306 (by rfl) rfl ?_
    refine z_ialdV (q := 1308) _ (by with_reducible assumption) (rfl) (by omega) (by decide) (g2) dL_acts_1307 rfl ?_
    refine z_iremE (q := 1309) (v := nI (v % np)) dL_acts_1308 (nI_ne0 hnp (by omega)) (pk_rem (by omega) hnp (by omega)) rfl ?_
    generalize v % np = k at hk
    refine z_istore (q := 1311) dL_acts_1309 (by decide) rfl ?_
    refine z_aload_n (q := 1312) dL_acts_1311 rfl rfl rfl ?_
    refine z_aload (q := 1314) dL_acts_1312 rfl rfl ?_
    refine z_iload (q := 1316) (i := 11) dL_acts_1314 rfl rfl ?_
    refine z_invS (q := 1319) (c_L_ends G b (b + 4) np k hTg hTp (by omega) g2 (by omega) hk) gL_acts_L_ends rfl hy_L_ends rfl rfl rfl rfl (Nat.le_of_ble_eq_true rfl) ⟨Nat.zero_le _, Nat.zero_le _⟩ dL_acts_1316 rfl (z_rnR fun I2 R2 hZ => ?_)
    obtain ⟨rfl, z1, z2, z3⟩ := hZ
    have l1 := LP_ends hL hk z1 z2 z3
    rw [← planL_lvs g hk] at l1
    have l1' : LWP I2 b (np - 1) (lvs g k np) (planL (lvs g k np) (np - 1)) := LP_s l1 (fun c c1 c2 => lvs_o g c2 (Or.inl c1) hI.2.2.1.2)
    have s1 : z_St T R2 I2 x g p pc (fun _ => 0) 0 := St_f hS (fun q j1 j2 => ⟨z3 q (by omega) (by omega), rfl⟩)
    have hm1 : nI np - nI 1 = nI (np - 1) := pk_sub (by omega)
    have hsp : sp_cancel g (nI k) = (nI (np - 1), some (lvs g k np)) := by
      rw [sp_cancel, hI.2.2.1.1, hm1, if_neg (nI_r (Nat.zero_le _) (show k ≤ np - 1 by omega) (by omega)), ← zI1, hm1, nI_clamp (by omega), gN_of hI.2.2.1.1 (by omega)]
    refine z_aload_n (q := 1320) dL_acts_1319 rfl rfl rfl ?_
    refine z_iload (q := 1322) (i := 11) dL_acts_1320 rfl rfl ?_
    refine z_invV (q := 1325) (call_some (c_X7_cancel G x pc 0 g (fun _ => 0) p s1 (nI k)) hsp) (by with_reducible assumption) rfl gL_acts_X7_cancel rfl hy_X7_cancel rfl rfl rfl rfl (Nat.le_of_ble_eq_true rfl) ⟨Nat.zero_le _, Nat.zero_le _⟩ dL_acts_1322 rfl (z_rvR fun I3 R3 hZ => ?_)
    obtain ⟨hSa, hfa⟩ := hZ
    have l2 := LP_x hb l1' hfa
    refine z_aload_n (q := 1326) dL_acts_1325 rfl rfl rfl ?_
    refine z_iconst (q := 1327) (v := nI 2) dL_acts_1326 (by rfl) rfl ?_
    refine z_ialdV (q := 1328) _ (by with_reducible assumption) (rfl) (by omega) (by decide) (l2.2.1) dL_acts_1327 rfl ?_
    refine z_icmp_ne (tgt := 1335) (q := 1331) dL_acts_1328 (by decide) rfl (fun hc => False.elim (hc rfl)) (fun _ => ?_)
    refine z_iconst (q := 1332) (v := nI 1) dL_acts_1331 (by rfl) rfl ?_
    refine z_goto (q := 1336) dL_acts_1332 (by decide) ?_
    exact z_zret rfl (by rfl) dL_acts_1336 (by decide) (by decide) (⟨by rw [zI1], Nat.le_refl _, rfl, _, _, _, nr, nd, np - 1, st, W, hSa, l2, PH_mono (PH_cancel hH (by omega) hk) hB2, hS2⟩)
  · have hnp : np = 0 := by
      rcases Nat.eq_zero_or_pos np with e | e
      · exact e
      · exact absurd h1285 (nI_ne0 e (by omega))
    subst hnp
    have hsp : sp_cancel g (nI 0) = (-1, none) := by rw [sp_cancel, hI.2.2.1.1, if_pos (Or.inr (by decide))]
    refine z_aload_n (q := 1289) dL_acts_1288 rfl rfl rfl ?_
    refine z_iconst (q := 1290) (v := nI 0) dL_acts_1289 (by rfl) rfl ?_
    refine z_invV (q := 1293) (call_none (c_X7_cancel G x pc 0 g (fun _ => 0) p hS (nI 0)) hsp) (by with_reducible assumption) rfl gL_acts_X7_cancel rfl hy_X7_cancel rfl rfl rfl rfl (Nat.le_of_ble_eq_true rfl) ⟨Nat.zero_le _, Nat.zero_le _⟩ dL_acts_1290 rfl (z_rvR fun I2 R2 hZ => ?_)
    refine z_iconst (q := 1294) (v := (-1)) dL_acts_1293 (by rfl) rfl ?_
    obtain ⟨hSa, hfa⟩ := hZ
    refine z_icmp_ne (tgt := 1301) (q := 1297) dL_acts_1294 (by decide) rfl (fun hc => False.elim (hc rfl)) (fun _ => ?_)
    refine z_iconst (q := 1298) (v := nI 1) dL_acts_1297 (by rfl) rfl ?_
    refine z_goto (q := 1302) dL_acts_1298 (by decide) ?_
    exact z_zret rfl (by rfl) dL_acts_1302 (by decide) (by decide) (⟨by rw [zI1], Nat.le_refl _, rfl, g, p, pc, nr, nd, 0, st, W, hSa, LP_x hb hL hfa, PH_mono hH (by omega), hS2⟩)
set_option maxRecDepth 100000 in
set_option maxHeartbeats 4000000 in
theorem act_sound {G : zG} {n : Nat} {T : zTT} {I : zII} {R : zRR} (x b nr nd np st Bu pc v y S2 B2 : Nat) (W : Int) (z : Int32) (g : Nat → Int32) (p : Nat → Nat → Int32) (hb : b = x + 595) (hT : LT T b) (hS : z_St T R I x g p pc (fun _ => 0) 0) (hL : LWP I b np g (planL g np)) (hH : PH nr nd np st Bu W g) (hst : st ≤ 4000) (hv : v < 10000000) (hS2 : st ≤ S2) (hB2 : Bu + 240 ≤ B2) (hBB : Bu + 240 ≤ 15800) {a : Nat} (ha : a < nr) : ∀ ls : List (Nat × Value), lv_pick ls [0, 1, 2, 3, 4, 5, 6, 7, 8, 9, 10] = [(0, .ref x), (1, .ref b), (2, .ref (b + 1)), (3, .ref (b + 2)), (4, .ref (b + 3)), (5, .ref (b + 4)), (6, .ref (b + 5)), (7, .int z), (8, .int (nI v)), (9, .int (nI y)), (10, .int (nI a))] → z_X G muL_acts (6, 6, 54) (actQ n T x b S2 B2) n T I R 0 0 1119 ls [] := by
  have hTx := hS.1.1
  have hTg := hT.1
  have hTr := hT.2.1
  have hTd := hT.2.2.1
  have hTy := hT.2.2.2.1
  have hTp := hT.2.2.2.2.1
  have hI := hH.1
  obtain ⟨h4, h4', h8⟩ := hH.2.1
  have g0 : I b 0 = nI nr := by rw [hL.1 0 (by decide) (by decide)]; exact hI.1.1
  have g1 : I b 1 = nI nd := by rw [hL.1 1 (by decide) (by decide)]; exact hI.2.1.1
  have g2 : I b 2 = nI np := hL.2.1
  have g3 : I b 3 = nI st := by rw [hL.1 3 (by decide) (by decide)]; exact hI.2.2.2.1
  have hx1 : ¬ (nI a < 0 ∨ g 0 ≤ nI a) := by rw [hI.1.1]; exact nI_i ha (by omega)
  have h1e6 : (1000000 : Int32) = nI 1000000 := by decide
  have h1e9 : (1000000000 : Int32) = nI 1000000000 := by decide
  intro ls hls
  refine z_pick [0, 1, 2, 3, 4, 5, 6, 7, 8, 9, 10] hls ?_
  refine z_aload_n (q := 1120) dL_acts_1119 rfl rfl rfl ?_
  refine z_iconst (q := 1121) (v := nI 3) dL_acts_1120 (by rfl) rfl ?_
  refine z_ialdV (q := 1122) _ (by with_reducible assumption) (rfl) (by omega) (by decide) (g3) dL_acts_1121 rfl ?_
  refine z_iload (q := 1124) (i := 8) dL_acts_1122 rfl rfl ?_
  refine z_iconst (q := 1125) (v := nI 4) dL_acts_1124 (by rfl) rfl ?_
  refine z_idivE (q := 1126) dL_acts_1125 (by decide) (pk_div (by omega) (by decide) (by decide)) rfl ?_
  refine z_bipush (q := 1128) (v := nI 6) dL_acts_1126 (by rfl) rfl ?_
  refine z_iremE (q := 1129) dL_acts_1128 (by decide) (pk_rem (by omega) (by decide) (by decide)) rfl ?_
  refine z_iaddE (q := 1130) dL_acts_1129 (nI_add _ _) rfl ?_
  have hf : st ≤ st + v / 4 % 6 ∧ st + v / 4 % 6 ≤ st + 5 ∧ st + v / 4 % 6 ≤ 5000 := by omega
  generalize st + v / 4 % 6 = f at hf
  have last : ∀ s m : Nat, 1 ≤ s → s ≤ 20 → 1 ≤ m → m ≤ 1000000 → ∀ ls : List (Nat × Value), lv_pick ls [0, 1, 2, 3, 4, 5, 6, 7, 8, 9, 10, 11, 12, 13] = [(0, .ref x), (1, .ref b), (2, .ref (b + 1)), (3, .ref (b + 2)), (4, .ref (b + 3)), (5, .ref (b + 4)), (6, .ref (b + 5)), (7, .int z), (8, .int (nI v)), (9, .int (nI y)), (10, .int (nI a)), (11, .int (nI f)), (12, .int (nI s)), (13, .int (nI m))] → z_X G muL_acts (6, 6, 54) (actQ n T x b S2 B2) n T I R 0 0 1180 ls [] := by
    intro s m hs1 hs2 hm1 hm2 ls hls
    refine z_pick [0, 1, 2, 3, 4, 5, 6, 7, 8, 9, 10, 11, 12, 13] hls ?_
    refine z_aload_n (q := 1181) dL_acts_1180 rfl rfl rfl ?_
    refine z_iconst (q := 1182) (v := nI 2) dL_acts_1181 (by rfl) rfl ?_
    refine z_ialdV (q := 1183) _ (by with_reducible assumption) (rfl) (by omega) (by decide) (g2) dL_acts_1182 rfl ?_
    refine z_bipush (q := 1185) (v := nI 8) dL_acts_1183 (by rfl) rfl ?_
    refine z_icmpn_eq (rfl) (rfl) (by omega) (by omega) (tgt := 1196) (q := 1188) dL_acts_1185 (by decide) rfl (fun h1185 => ?_) (fun h1185 => ?_)
    · have hsp1 : sp_sound g (nI a) (nI f) (nI 21) (nI m) = (-1, none) := by rw [sp_sound, if_neg hx1, if_neg (nI_r (Nat.zero_le _) hf.2.2 (by omega)), if_pos (Or.inr (by decide))]
      have hsp2 : sp_sound g (nI a) (nI st - nI 1) (nI s) (nI 0) = (-1, none) := by
        rw [sp_sound, if_neg hx1]
        split
        · rfl
        · rw [if_neg (nI_r hs1 hs2 (by omega)), if_pos (Or.inl (by decide))]
      refine z_aload_n (q := 1197) dL_acts_1196 rfl rfl rfl ?_
      refine z_iload (q := 1199) (i := 10) dL_acts_1197 rfl rfl ?_
      refine z_iload (q := 1201) (i := 11) dL_acts_1199 rfl rfl ?_
      refine z_bipush (q := 1203) (v := nI 21) dL_acts_1201 (by rfl) rfl ?_
      refine z_iload (q := 1205) (i := 13) dL_acts_1203 rfl rfl ?_
      refine z_invV (q := 1208) (call_none (c_X7_sound G x pc 0 g (fun _ => 0) p hS (nI a) (nI f) (nI 21) (nI m)) hsp1) (by with_reducible assumption) rfl gL_acts_X7_sound rfl hy_X7_sound rfl rfl rfl rfl (Nat.le_of_ble_eq_true rfl) ⟨Nat.zero_le _, Nat.zero_le _⟩ dL_acts_1205 rfl (z_rvR fun I2 R2 hZ => ?_)
      refine z_iconst (q := 1209) (v := (-1)) dL_acts_1208 (by rfl) rfl ?_
      obtain ⟨hSa, hfa⟩ := hZ
      have hLa := LP_x hb hL hfa
      have g3a : I2 b 3 = nI st := by rw [hLa.1 3 (by decide) (by decide)]; exact hI.2.2.2.1
      refine z_icmp_ne (tgt := 1234) (q := 1212) dL_acts_1209 (by decide) rfl (fun hc => False.elim (hc rfl)) (fun _ => ?_)
      refine z_aload_n (q := 1213) dL_acts_1212 rfl rfl rfl ?_
      refine z_iload (q := 1215) (i := 10) dL_acts_1213 rfl rfl ?_
      refine z_aload_n (q := 1216) dL_acts_1215 rfl rfl rfl ?_
      refine z_iconst (q := 1217) (v := nI 3) dL_acts_1216 (by rfl) rfl ?_
      refine z_ialdV (q := 1218) _ (by with_reducible assumption) (rfl) (by omega) (by decide) (g3a) dL_acts_1217 rfl ?_
      refine z_iconst (q := 1219) (v := nI 1) dL_acts_1218 (by rfl) rfl ?_
      refine z_isub (q := 1220) dL_acts_1219 rfl ?_
      refine z_iload (q := 1222) (i := 12) dL_acts_1220 rfl rfl ?_
      refine z_iconst (q := 1223) (v := nI 0) dL_acts_1222 (by rfl) rfl ?_
      refine z_invV (q := 1226) (call_none (c_X7_sound G x pc 0 g (fun _ => 0) p hSa (nI a) (nI st - nI 1) (nI s) (nI 0)) hsp2) (by with_reducible assumption) rfl gL_acts_X7_sound rfl hy_X7_sound rfl rfl rfl rfl (Nat.le_of_ble_eq_true rfl) ⟨Nat.zero_le _, Nat.zero_le _⟩ dL_acts_1223 rfl (z_rvR fun I3 R3 hZ => ?_)
      refine z_iconst (q := 1227) (v := (-1)) dL_acts_1226 (by rfl) rfl ?_
      obtain ⟨hSb, hfb⟩ := hZ
      refine z_icmp_ne (tgt := 1234) (q := 1230) dL_acts_1227 (by decide) rfl (fun hc => False.elim (hc rfl)) (fun _ => ?_)
      refine z_iconst (q := 1231) (v := nI 1) dL_acts_1230 (by rfl) rfl ?_
      refine z_goto (q := 1235) dL_acts_1231 (by decide) ?_
      exact z_zret rfl (by rfl) dL_acts_1235 (by decide) (by decide) (⟨by rw [zI1], Nat.le_refl _, rfl, g, p, pc, nr, nd, np, st, W, hSb, LP_x hb hLa hfb, PH_mono hH (by omega), hS2⟩)
    · refine z_iload (q := 1190) (i := 11) dL_acts_1188 rfl rfl ?_
      refine z_sipush (q := 1193) (v := nI 5000) dL_acts_1190 (by rfl) rfl ?_
      refine z_icmpn_le (rfl) (rfl) (by omega) (by omega) (tgt := 1236) (q := 1196) dL_acts_1193 (by decide) rfl (fun _ => ?_) (fun hc => absurd hc (by omega))
      have hpos := put_at hL hI (nI f)
      have hH' := PH_sound hH (by omega) hf.1 hf.2.1 hf.2.2 ha hs1 hs2 hm2
      obtain ⟨t', ht1, ht2, -, -⟩ := PH_t hH' hBB
      rw [putG_5] at ht1
      have hsp : sp_sound g (nI a) (nI f) (nI s) (nI m) = (nI (np + 1), some (putG g np (nI f) (nI 0) (nI a) (nI s) (nI m))) := by
        rw [sp_sound, if_neg hx1, if_neg (nI_r (Nat.zero_le _) hf.2.2 (by omega)), if_neg (nI_r hs1 hs2 (by omega)), h1e6, if_neg (nI_r hm1 hm2 (by omega)), soundQ, hI.2.2.2.1, if_neg (nI_nlt hf.1 (by omega)), gN_of hI.2.2.1.1 (by omega), if_neg (by omega), ht1, h1e9, if_neg (nI_nlt (by omega) (by omega)), putG_2 hI.2.2.1.1]
      refine z_aload_n (q := 1237) dL_acts_1236 rfl rfl rfl ?_
      refine z_aload (q := 1239) dL_acts_1237 rfl rfl ?_
      refine z_iload (q := 1241) (i := 11) dL_acts_1239 rfl rfl ?_
      refine z_iconst (q := 1242) (v := nI 0) dL_acts_1241 (by rfl) rfl ?_
      refine z_iload (q := 1244) (i := 10) dL_acts_1242 rfl rfl ?_
      refine z_iload (q := 1246) (i := 12) dL_acts_1244 rfl rfl ?_
      refine z_iload (q := 1248) (i := 13) dL_acts_1246 rfl rfl ?_
      refine z_invS (q := 1251) (c_L_puts G b (b + 4) np (posF g (nI f) np 0) (nI f) (nI 0) (nI a) (nI s) (nI m) hTg hTp (by omega) g2 (by omega) hpos.1 hpos.2.1 hpos.2.2) gL_acts_L_puts rfl hy_L_puts rfl rfl rfl rfl (Nat.le_of_ble_eq_true rfl) ⟨Nat.zero_le _, Nat.zero_le _⟩ dL_acts_1248 rfl (z_rnR fun I2 R2 hZ => ?_)
      obtain ⟨rfl, z1, z2, z3⟩ := hZ
      have l1 := LP_put hL (by omega) hI.2.2.1.1 z1 z2 z3
      have s1 : z_St T R2 I2 x g p pc (fun _ => 0) 0 := St_f hS (fun q j1 j2 => ⟨z3 q (by omega) (by omega), rfl⟩)
      refine z_aload_n (q := 1252) dL_acts_1251 rfl rfl rfl ?_
      refine z_iload (q := 1254) (i := 10) dL_acts_1252 rfl rfl ?_
      refine z_iload (q := 1256) (i := 11) dL_acts_1254 rfl rfl ?_
      refine z_iload (q := 1258) (i := 12) dL_acts_1256 rfl rfl ?_
      refine z_iload (q := 1260) (i := 13) dL_acts_1258 rfl rfl ?_
      refine z_invV (q := 1263) (call_some (c_X7_sound G x pc 0 g (fun _ => 0) p s1 (nI a) (nI f) (nI s) (nI m)) hsp) (by with_reducible assumption) rfl gL_acts_X7_sound rfl hy_X7_sound rfl rfl rfl rfl (Nat.le_of_ble_eq_true rfl) ⟨Nat.zero_le _, Nat.zero_le _⟩ dL_acts_1260 rfl (z_rvR fun I3 R3 hZ => ?_)
      obtain ⟨hSa, hfa⟩ := hZ
      have l2 := LP_x hb l1 hfa
      refine z_aload_n (q := 1264) dL_acts_1263 rfl rfl rfl ?_
      refine z_iconst (q := 1265) (v := nI 2) dL_acts_1264 (by rfl) rfl ?_
      refine z_ialdV (q := 1266) _ (by with_reducible assumption) (rfl) (by omega) (by decide) (l2.2.1) dL_acts_1265 rfl ?_
      refine z_icmp_ne (tgt := 1273) (q := 1269) dL_acts_1266 (by decide) rfl (fun hc => False.elim (hc rfl)) (fun _ => ?_)
      refine z_iconst (q := 1270) (v := nI 1) dL_acts_1269 (by rfl) rfl ?_
      refine z_goto (q := 1274) dL_acts_1270 (by decide) ?_
      exact z_zret rfl (by rfl) dL_acts_1274 (by decide) (by decide) (⟨by rw [zI1], Nat.le_refl _, rfl, _, _, _, nr, nd, np + 1, st, W, hSa, l2, PH_mono hH' hB2, hS2⟩)
  have next : ∀ s : Nat, 1 ≤ s → s ≤ 20 → ∀ ls : List (Nat × Value), lv_pick ls [0, 1, 2, 3, 4, 5, 6, 7, 8, 9, 10, 11, 12] = [(0, .ref x), (1, .ref b), (2, .ref (b + 1)), (3, .ref (b + 2)), (4, .ref (b + 3)), (5, .ref (b + 4)), (6, .ref (b + 5)), (7, .int z), (8, .int (nI v)), (9, .int (nI y)), (10, .int (nI a)), (11, .int (nI f)), (12, .int (nI s))] → z_X G muL_acts (6, 6, 54) (actQ n T x b S2 B2) n T I R 0 0 1155 ls [] := by
    intro s hs1 hs2 ls hls
    refine z_pick [0, 1, 2, 3, 4, 5, 6, 7, 8, 9, 10, 11, 12] hls ?_
    refine z_iconst (q := 1156) (v := nI 1) dL_acts_1155 (by rfl) rfl ?_
    refine z_iload (q := 1158) (i := 8) dL_acts_1156 rfl rfl ?_
    refine z_bipush (q := 1160) (v := nI 7) dL_acts_1158 (by rfl) rfl ?_
    refine z_idivE (q := 1161) dL_acts_1160 (by decide) (pk_div (by omega) (by decide) (by decide)) rfl ?_
    refine z_iload (q := 1163) (i := 8) dL_acts_1161 rfl rfl ?_
    refine z_iconst (q := 1164) (v := nI 3) dL_acts_1163 (by rfl) rfl ?_
    refine z_iremE (q := 1165) dL_acts_1164 (by decide) (pk_rem (by omega) (by decide) (by decide)) rfl ?_
    refine z_if_ne (tgt := 1173) (q := 1168) dL_acts_1165 (by decide) rfl (fun h1165 => ?_) (fun h1165 => ?_)
    · refine z_sipush (q := 1176) (v := nI 5000) dL_acts_1173 (by rfl) rfl ?_
      refine z_iremE (q := 1177) dL_acts_1176 (by decide) (pk_rem (by omega) (by decide) (by decide)) rfl ?_
      refine z_iaddE (q := 1178) dL_acts_1177 (nI_add _ _) rfl ?_
      refine z_istore (q := 1180) dL_acts_1178 (by decide) rfl ?_
      exact last s (1 + v / 7 % 5000) hs1 hs2 (by omega) (by omega) _ rfl
    · refine z_ldc (q := 1170) (i := 4) (v := 1000000) rfl dL_acts_1168 rfl ?_
      refine z_goto (q := 1176) dL_acts_1170 (by decide) ?_
      refine z_iremE (q := 1177) (v := nI (v / 7 % 1000000)) dL_acts_1176 (by decide) (pk_rem (d := 1000000) (by omega) (by decide) (by decide)) rfl ?_
      refine z_iaddE (q := 1178) dL_acts_1177 (nI_add _ _) rfl ?_
      refine z_istore (q := 1180) dL_acts_1178 (by decide) rfl ?_
      exact last s (1 + v / 7 % 1000000) hs1 hs2 (by omega) (by omega) _ rfl
  refine z_istore (q := 1132) dL_acts_1130 (by decide) rfl ?_
  refine z_iconst (q := 1133) (v := nI 1) dL_acts_1132 (by rfl) rfl ?_
  refine z_iload (q := 1135) (i := 8) dL_acts_1133 rfl rfl ?_
  refine z_bipush (q := 1137) (v := nI 24) dL_acts_1135 (by rfl) rfl ?_
  refine z_idivE (q := 1138) dL_acts_1137 (by decide) (pk_div (by omega) (by decide) (by decide)) rfl ?_
  refine z_iload (q := 1140) (i := 8) dL_acts_1138 rfl rfl ?_
  refine z_iconst (q := 1141) (v := nI 4) dL_acts_1140 (by rfl) rfl ?_
  refine z_iremE (q := 1142) dL_acts_1141 (by decide) (pk_rem (by omega) (by decide) (by decide)) rfl ?_
  refine z_if_ne (tgt := 1150) (q := 1145) dL_acts_1142 (by decide) rfl (fun h1142 => ?_) (fun h1142 => ?_)
  · refine z_iconst (q := 1151) (v := nI 5) dL_acts_1150 (by rfl) rfl ?_
    refine z_iremE (q := 1152) dL_acts_1151 (by decide) (pk_rem (by omega) (by decide) (by decide)) rfl ?_
    refine z_iaddE (q := 1153) dL_acts_1152 (nI_add _ _) rfl ?_
    refine z_istore (q := 1155) dL_acts_1153 (by decide) rfl ?_
    exact next (1 + v / 24 % 5) (by omega) (by omega) _ rfl
  · refine z_bipush (q := 1147) (v := nI 20) dL_acts_1145 (by rfl) rfl ?_
    refine z_goto (q := 1151) dL_acts_1147 (by decide) ?_
    refine z_iremE (q := 1152) dL_acts_1151 (by decide) (pk_rem (by omega) (by decide) (by decide)) rfl ?_
    refine z_iaddE (q := 1153) dL_acts_1152 (nI_add _ _) rfl ?_
    refine z_istore (q := 1155) dL_acts_1153 (by decide) rfl ?_
    exact next (1 + v / 24 % 20) (by omega) (by omega) _ rfl

