/-! THE LAW's step: its loops -/
theorem z_dec (x : Int32) : x + Int32.ofInt (-1) = x - 1 := by rw [z_sub1, zI1]
theorem LW_ent {I : zII} {b np : Nat} {s g : Nat → Int32} (h : LWP I b np s (planL g np)) {k : Nat} (hk : k < np) : entR (I (b + 4)) k = ent g k := by
  have h1 := LW_e h hk
  rw [planL_get, if_pos hk] at h1
  exact (Option.some.inj h1).symm
set_option maxRecDepth 100000 in
set_option maxHeartbeats 4000000 in
theorem step_e {G : zG} {Q : zQ} {n : Nat} {T : zTT} {I : zII} {R : zRR} (b nr : Nat) (hT : LT T b) (h0 : I b 0 = nI nr) (hnr : nr ≤ 4) (kk : ∀ I' : zII, (∀ q, q ≠ b + 5 → I' q = I q) → ∀ ls : List (Nat × Value), lv_pick ls [0, 1, 2, 3, 4, 5] = [(0, .ref b), (1, .ref (b + 1)), (2, .ref (b + 2)), (3, .ref (b + 3)), (4, .ref (b + 4)), (5, .ref (b + 5))] → z_X G muL_step (1, 1, 8) Q n T I' R 0 0 65 ls []) : z_X G muL_step (1, 1, 8) Q n T I R 0 0 0 [(0, .ref b), (1, .ref (b + 1)), (2, .ref (b + 2)), (3, .ref (b + 3)), (4, .ref (b + 4)), (5, .ref (b + 5))] [] := by
  have hTg := hT.1
  have hTr := hT.2.1
  have hTe := hT.2.2.2.2.2
  have loop : ∀ m, m ≤ 64 → ∀ I2 : zII, (∀ q, q ≠ b + 5 → I2 q = I q) → ∀ ls : List (Nat × Value), lv_pick ls [0, 1, 2, 3, 4, 5, 6] = [(0, .ref b), (1, .ref (b + 1)), (2, .ref (b + 2)), (3, .ref (b + 3)), (4, .ref (b + 4)), (5, .ref (b + 5)), (6, .int (nI m - 1))] → z_X G muL_step (1, 1, 8) Q n T I2 R 0 0 4 ls [] := by
    intro m
    induction m with
    | zero =>
      intro _ I2 hf ls hls
      refine z_pick [0, 1, 2, 3, 4, 5, 6] hls ?_
      refine z_iload (q := 6) (i := 6) dL_step_4 rfl rfl ?_
      refine z_if_lt (tgt := 65) (q := 9) dL_step_6 (by decide) rfl (fun _ => ?_) (fun hc => False.elim (hc (by decide)))
      exact kk I2 hf _ rfl
    | succ m ih =>
      intro hm I2 hf ls hls
      rw [nI_pred] at hls
      have g0 : I2 b 0 = nI nr := by rw [hf b (by omega)]; exact h0
      have hdec := z_dec (nI m)
      have next : ∀ v : Int32, ∀ ls : List (Nat × Value), lv_pick ls [0, 1, 2, 3, 4, 5, 6] = [(0, .ref b), (1, .ref (b + 1)), (2, .ref (b + 2)), (3, .ref (b + 3)), (4, .ref (b + 4)), (5, .ref (b + 5)), (6, .int (nI m))] → z_X G muL_step (1, 1, 8) Q n T I2 R 0 0 58 ls [.int v, .int (nI m), .ref (b + 5)] := by
        intro v ls hls
        refine z_pick [0, 1, 2, 3, 4, 5, 6] hls ?_
        refine z_iast (q := 59) _ (by with_reducible assumption) (rfl) (by omega) (by decide) dL_step_58 rfl ?_
        refine z_iinc (q := 62) dL_step_59 rfl (hdec) (by decide) rfl ?_
        refine z_goto (q := 4) dL_step_62 (by decide) ?_
        exact ih (by omega) _ (fun q hq => by rw [zw_row _ _ hq]; exact hf q hq) _ rfl
      refine z_pick [0, 1, 2, 3, 4, 5, 6] hls ?_
      refine z_iload (q := 6) (i := 6) dL_step_4 rfl rfl ?_
      refine z_if_lt (tgt := 65) (q := 9) dL_step_6 (by decide) rfl (fun hc => False.elim (nI_pos (n := m) (by omega) hc)) (fun _ => ?_)
      refine z_aload (q := 11) dL_step_9 rfl rfl ?_
      refine z_iload (q := 13) (i := 6) dL_step_11 rfl rfl ?_
      refine z_iload (q := 15) (i := 6) dL_step_13 rfl rfl ?_
      refine z_bipush (q := 17) (v := nI 16) dL_step_15 (by rfl) rfl ?_
      refine z_iremE (q := 18) dL_step_17 (by decide) (pk_rem (by omega) (by decide) (by decide)) rfl ?_
      refine z_if_le (tgt := 31) (q := 21) dL_step_18 (by decide) rfl (fun h18 => ?_) (fun h18 => ?_)
      · refine z_iload (q := 33) (i := 6) dL_step_31 rfl rfl ?_
        refine z_bipush (q := 35) (v := nI 16) dL_step_33 (by rfl) rfl ?_
        refine z_idivE (q := 36) dL_step_35 (by decide) (pk_div (by omega) (by decide) (by decide)) rfl ?_
        refine z_aload_n (q := 37) dL_step_36 rfl rfl rfl ?_
        refine z_iconst (q := 38) (v := nI 0) dL_step_37 (by rfl) rfl ?_
        refine z_ialdV (q := 39) _ (by with_reducible assumption) (rfl) (by omega) (by decide) (g0) dL_step_38 rfl ?_
        refine z_icmpn_ge (rfl) (rfl) (by omega) (by omega) (tgt := 57) (q := 42) dL_step_39 (by decide) rfl (fun h39 => ?_) (fun h39 => ?_)
        · refine z_iconst (q := 58) (v := nI 0) dL_step_57 (by rfl) rfl ?_
          exact next _ _ rfl
        · refine z_aload_n (q := 43) dL_step_42 rfl rfl rfl ?_
          refine z_bipush (q := 45) (v := nI 6) dL_step_43 (by rfl) rfl ?_
          refine z_iload (q := 47) (i := 6) dL_step_45 rfl rfl ?_
          refine z_bipush (q := 49) (v := nI 16) dL_step_47 (by rfl) rfl ?_
          refine z_idivE (q := 50) dL_step_49 (by decide) (pk_div (by omega) (by decide) (by decide)) rfl ?_
          refine z_imulE (q := 51) dL_step_50 (pk_mul _ _) rfl ?_
          refine z_iconst (q := 52) (v := nI 2) dL_step_51 (by rfl) rfl ?_
          refine z_iaddE (q := 53) dL_step_52 (nI_add _ _) rfl ?_
          refine z_iald (q := 54) _ (by with_reducible assumption) (rfl) (by omega) (by decide) dL_step_53 rfl ?_
          refine z_goto (q := 58) dL_step_54 (by decide) ?_
          exact next _ _ rfl
      · have h1 : 1 ≤ m := Nat.pos_of_ne_zero (fun z => h18 (by rw [z]; decide))
        refine z_aload (q := 23) dL_step_21 rfl rfl ?_
        refine z_iload (q := 25) (i := 6) dL_step_23 rfl rfl ?_
        refine z_iconst (q := 26) (v := nI 1) dL_step_25 (by rfl) rfl ?_
        refine z_isubE (q := 27) dL_step_26 (pk_sub (by omega)) rfl ?_
        refine z_iald (q := 28) _ (by with_reducible assumption) (rfl) (by omega) (by decide) dL_step_27 rfl ?_
        refine z_goto (q := 58) dL_step_28 (by decide) ?_
        exact next _ _ rfl
  refine z_bipush (q := 2) (v := nI 63) dL_step_0 (by rfl) rfl ?_
  refine z_istore (q := 4) dL_step_2 (by decide) rfl ?_
  exact loop 64 (Nat.le_refl _) I (fun _ _ => rfl) _ rfl
theorem aimE_w {st f kd wh sp mu : Nat} (h : Nat → Int32) (hf : f < 2 ^ 31) (hs : st < 2 ^ 31) (hk : kd < 2) (hw : wh < 2 ^ 31) : aimE (nI st) h (nI f, nI kd, nI wh, nI sp, nI mu) = if kd = 1 ∧ f = st then upd h (57 + 10 * wh + 6) (if h (57 + 10 * wh + 7) = 1 then h (57 + 10 * wh + 6) else nI mu) else h := by
  have hi : isTe (nI st) (nI f, nI kd, nI wh, nI sp, nI mu) ↔ kd = 1 ∧ f = st := by
    constructor
    · intro z
      have z1 : nI kd = 1 := z.1
      have z2 : nI f = nI st := z.2
      rw [← zI1] at z1
      exact ⟨(nI_eq (by omega) (by omega)).mp z1, (nI_eq hf hs).mp z2⟩
    · rintro ⟨rfl, rfl⟩
      exact ⟨zI1, rfl⟩
  have hc : (nI wh).toNatClampNeg = wh := nI_clamp hw
  unfold aimE
  by_cases z : kd = 1 ∧ f = st
  · rw [if_pos (hi.mpr z), if_pos z]
    show upd h (57 + 10 * (nI wh).toNatClampNeg + 6) (if h (57 + 10 * (nI wh).toNatClampNeg + 7) = 1 then h (57 + 10 * (nI wh).toNatClampNeg + 6) else nI mu) = _
    rw [hc]
  · rw [if_neg (fun y => z (hi.mp y)), if_neg z]
set_option maxRecDepth 100000 in
set_option maxHeartbeats 4000000 in
theorem step_aim {G : zG} {Q : zQ} {n : Nat} {T : zTT} {I : zII} {R : zRR} (b nr nd np st : Nat) (g s : Nat → Int32) (hT : LT T b) (hL : LWP I b np s (planL g np)) (hI : INV nr nd np st g) (hs : ∀ c, c < 321 → s c = g c) (h4 : nr ≤ 4) (h4' : nd ≤ 4) (h8 : np ≤ 8) (hst : st < 90000) (kk : ∀ I' : zII, LWP I' b np (aimL (nI st) s (planL g np)) (planL g np) → (∀ q, q ≠ b + 2 → I' q = I q) → ∀ ls : List (Nat × Value), lv_pick ls [0, 1, 2, 3, 4, 5] = [(0, .ref b), (1, .ref (b + 1)), (2, .ref (b + 2)), (3, .ref (b + 3)), (4, .ref (b + 4)), (5, .ref (b + 5))] → z_X G muL_step (1, 1, 8) Q n T I' R 0 0 148 ls []) : ∀ ls : List (Nat × Value), lv_pick ls [0, 1, 2, 3, 4, 5] = [(0, .ref b), (1, .ref (b + 1)), (2, .ref (b + 2)), (3, .ref (b + 3)), (4, .ref (b + 4)), (5, .ref (b + 5))] → z_X G muL_step (1, 1, 8) Q n T I R 0 0 65 ls [] := by
  have hTg := hT.1
  have hTd := hT.2.2.1
  have hTp := hT.2.2.2.2.1
  have loop : ∀ i, i ≤ np → ∀ I2 : zII, LWP I2 b np (aimL (nI st) s (pl (ent g) i)) (planL g np) → (∀ q, q ≠ b + 2 → I2 q = I q) → ∀ ls : List (Nat × Value), lv_pick ls [0, 1, 2, 3, 4, 5, 6] = [(0, .ref b), (1, .ref (b + 1)), (2, .ref (b + 2)), (3, .ref (b + 3)), (4, .ref (b + 4)), (5, .ref (b + 5)), (6, .int (nI i))] → z_X G muL_step (1, 1, 8) Q n T I2 R 0 0 68 ls [] := by
    refine z_up (N := np) _ ?_ ?_
    · intro I2 hL2 hf ls hls
      refine z_pick [0, 1, 2, 3, 4, 5, 6] hls ?_
      refine z_iload (q := 70) (i := 6) dL_step_68 rfl rfl ?_
      refine z_aload_n (q := 71) dL_step_70 rfl rfl rfl ?_
      refine z_iconst (q := 72) (v := nI 2) dL_step_71 (by rfl) rfl ?_
      refine z_ialdV (q := 73) _ (by with_reducible assumption) (rfl) (by omega) (by decide) (hL2.2.1) dL_step_72 rfl ?_
      refine z_icmpn_ge (rfl) (rfl) (by omega) (by omega) (tgt := 148) (q := 76) dL_step_73 (by decide) rfl (fun _ => ?_) (fun hc => absurd hc (by omega))
      exact kk I2 hL2 hf _ rfl
    · intro i hi ih I2 hL2 hf ls hls
      obtain ⟨f, kd, wh, sp, mu, he, hf5, hc⟩ := hI.2.2.2.2.2.2.1 i hi
      have hent := (LW_ent hL2 hi).trans he
      have p0 : I2 (b + 4) (5 * i) = nI f := congrArg (fun z : zE => z.1) hent
      have p1 : I2 (b + 4) (5 * i + 1) = nI kd := congrArg (fun z : zE => z.2.1) hent
      have p2 : I2 (b + 4) (5 * i + 2) = nI wh := congrArg (fun z : zE => z.2.2.1) hent
      have p4 : I2 (b + 4) (5 * i + 4) = nI mu := congrArg (fun z : zE => z.2.2.2.2) hent
      have g3 : I2 b 3 = nI st := by
        rw [hf b (by omega), hL.1 3 (by decide) (by decide), hs 3 (by decide)]
        exact hI.2.2.2.1
      have hsm : ∀ e, e ∈ pl (ent g) i → smE e := fun e he => by
        obtain ⟨k, hk, rfl⟩ := pl_mem he
        exact EOK_sm (hI.2.2.2.2.2.2.1 k (by omega)) hI.1.2 hI.2.1.2
      have hwb : wh < 12 ∧ kd < 2 := by omega
      have hst1 : aimL (nI st) s (pl (ent g) (i + 1)) = if kd = 1 ∧ f = st then upd (aimL (nI st) s (pl (ent g) i)) (57 + 10 * wh + 6) (if aimL (nI st) s (pl (ent g) i) (57 + 10 * wh + 7) = 1 then aimL (nI st) s (pl (ent g) i) (57 + 10 * wh + 6) else nI mu) else aimL (nI st) s (pl (ent g) i) := by
        rw [aimL_s, he, aimE_w _ (by omega) (by omega) (by omega) (by omega)]
      have skip : aimL (nI st) s (pl (ent g) (i + 1)) = aimL (nI st) s (pl (ent g) i) → ∀ ls : List (Nat × Value), lv_pick ls [0, 1, 2, 3, 4, 5, 6] = [(0, .ref b), (1, .ref (b + 1)), (2, .ref (b + 2)), (3, .ref (b + 3)), (4, .ref (b + 4)), (5, .ref (b + 5)), (6, .int (nI i))] → z_X G muL_step (1, 1, 8) Q n T I2 R 0 0 142 ls [] := by
        intro hq ls hls
        refine z_pick [0, 1, 2, 3, 4, 5, 6] hls ?_
        refine z_iinc (q := 145) dL_step_142 rfl (nI_add _ 1) (by decide) rfl ?_
        refine z_goto (q := 68) dL_step_145 (by decide) ?_
        exact ih I2 (by rw [hq]; exact hL2) hf _ rfl
      refine z_pick [0, 1, 2, 3, 4, 5, 6] hls ?_
      refine z_iload (q := 70) (i := 6) dL_step_68 rfl rfl ?_
      refine z_aload_n (q := 71) dL_step_70 rfl rfl rfl ?_
      refine z_iconst (q := 72) (v := nI 2) dL_step_71 (by rfl) rfl ?_
      refine z_ialdV (q := 73) _ (by with_reducible assumption) (rfl) (by omega) (by decide) (hL2.2.1) dL_step_72 rfl ?_
      refine z_icmpn_ge (rfl) (rfl) (by omega) (by omega) (tgt := 148) (q := 76) dL_step_73 (by decide) rfl (fun hc => absurd hc (by omega)) (fun _ => ?_)
      refine z_bipush (q := 78) (v := nI 10) dL_step_76 (by rfl) rfl ?_
      refine z_aload (q := 80) dL_step_78 rfl rfl ?_
      refine z_iconst (q := 81) (v := nI 5) dL_step_80 (by rfl) rfl ?_
      refine z_iload (q := 83) (i := 6) dL_step_81 rfl rfl ?_
      refine z_imulE (q := 84) dL_step_83 (pk_mul _ _) rfl ?_
      refine z_iconst (q := 85) (v := nI 2) dL_step_84 (by rfl) rfl ?_
      refine z_iaddE (q := 86) dL_step_85 (nI_add _ _) rfl ?_
      refine z_ialdV (q := 87) _ (by with_reducible assumption) (rfl) (by omega) (by decide) (p2) dL_step_86 rfl ?_
      refine z_imulE (q := 88) dL_step_87 (pk_mul _ _) rfl ?_
      refine z_istore (q := 90) dL_step_88 (by decide) rfl ?_
      refine z_aload (q := 92) dL_step_90 rfl rfl ?_
      refine z_iconst (q := 93) (v := nI 5) dL_step_92 (by rfl) rfl ?_
      refine z_iload (q := 95) (i := 6) dL_step_93 rfl rfl ?_
      refine z_imulE (q := 96) dL_step_95 (pk_mul _ _) rfl ?_
      refine z_iconst (q := 97) (v := nI 1) dL_step_96 (by rfl) rfl ?_
      refine z_iaddE (q := 98) dL_step_97 (nI_add _ _) rfl ?_
      refine z_ialdV (q := 99) _ (by with_reducible assumption) (rfl) (by omega) (by decide) (p1) dL_step_98 rfl ?_
      refine z_iconst (q := 100) (v := nI 1) dL_step_99 (by rfl) rfl ?_
      refine z_icmpn_ne (rfl) (rfl) (by omega) (by omega) (tgt := 142) (q := 103) dL_step_100 (by decide) rfl (fun h100 => ?_) (fun h100 => ?_)
      · exact skip (by rw [hst1, if_neg (fun z => h100 z.1)]) _ rfl
      · refine z_aload (q := 105) dL_step_103 rfl rfl ?_
        refine z_iconst (q := 106) (v := nI 5) dL_step_105 (by rfl) rfl ?_
        refine z_iload (q := 108) (i := 6) dL_step_106 rfl rfl ?_
        refine z_imulE (q := 109) dL_step_108 (pk_mul _ _) rfl ?_
        refine z_ialdV (q := 110) _ (by with_reducible assumption) (rfl) (by omega) (by decide) (p0) dL_step_109 rfl ?_
        refine z_aload_n (q := 111) dL_step_110 rfl rfl rfl ?_
        refine z_iconst (q := 112) (v := nI 3) dL_step_111 (by rfl) rfl ?_
        refine z_ialdV (q := 113) _ (by with_reducible assumption) (rfl) (by omega) (by decide) (g3) dL_step_112 rfl ?_
        refine z_icmpn_ne (rfl) (rfl) (by omega) (by omega) (tgt := 142) (q := 116) dL_step_113 (by decide) rfl (fun h113 => ?_) (fun h113 => ?_)
        · exact skip (by rw [hst1, if_neg (fun z => h113 z.2)]) _ rfl
        · have hwd : wh < nd := by omega
          obtain ⟨-, -, -, -, -, -, -, l, -, -, -, -, -, -, -, -, ⟨q9, q9'⟩⟩ := (hI.2.2.2.2.2.1 wh (by omega)).1 hwd
          have hl1 : aimL (nI st) s (pl (ent g) i) (57 + 10 * wh + 7) = nI l := by
            rw [aimL_b _ (fun x hx => by omega) _ _ hsm, hs _ (by omega)]
            exact q9
          have hl : I2 (b + 2) (10 * wh + 7) = nI l := by
            rw [LW_d hL2 (by omega) (by decide)]
            exact hl1
          refine z_aload_n (q := 117) dL_step_116 rfl rfl rfl ?_
          refine z_iload (q := 119) (i := 7) dL_step_117 rfl rfl ?_
          refine z_bipush (q := 121) (v := nI 7) dL_step_119 (by rfl) rfl ?_
          refine z_iaddE (q := 122) dL_step_121 (nI_add _ _) rfl ?_
          refine z_ialdV (q := 123) _ (by with_reducible assumption) (rfl) (by omega) (by decide) (hl) dL_step_122 rfl ?_
          refine z_if_ne (tgt := 142) (q := 126) dL_step_123 (by decide) rfl (fun h123 => ?_) (fun h123 => ?_)
          · refine skip ?_ _ rfl
            rw [hst1, if_pos ⟨h100, h113⟩, hl1, if_pos, upd_self]
            have : l = 1 := by
              rcases (show l = 0 ∨ l = 1 by omega) with z | z
              · exact absurd (by rw [z]; exact nI_0) h123
              · exact z
            rw [this]; exact zI1
          · refine z_aload_n (q := 127) dL_step_126 rfl rfl rfl ?_
            refine z_iload (q := 129) (i := 7) dL_step_127 rfl rfl ?_
            refine z_bipush (q := 131) (v := nI 6) dL_step_129 (by rfl) rfl ?_
            refine z_iaddE (q := 132) dL_step_131 (nI_add _ _) rfl ?_
            refine z_aload (q := 134) dL_step_132 rfl rfl ?_
            refine z_iconst (q := 135) (v := nI 5) dL_step_134 (by rfl) rfl ?_
            refine z_iload (q := 137) (i := 6) dL_step_135 rfl rfl ?_
            refine z_imulE (q := 138) dL_step_137 (pk_mul _ _) rfl ?_
            refine z_iconst (q := 139) (v := nI 4) dL_step_138 (by rfl) rfl ?_
            refine z_iaddE (q := 140) dL_step_139 (nI_add _ _) rfl ?_
            refine z_ialdV (q := 141) _ (by with_reducible assumption) (rfl) (by omega) (by decide) (p4) dL_step_140 rfl ?_
            refine z_iast (q := 142) _ (by with_reducible assumption) (rfl) (by omega) (by decide) dL_step_141 rfl ?_
            refine z_iinc (q := 145) dL_step_142 rfl (nI_add _ 1) (by decide) rfl ?_
            refine z_goto (q := 68) dL_step_145 (by decide) ?_
            refine ih _ ?_ (fun q hq => by rw [zw_row _ _ hq]; exact hf q hq) _ rfl
            rw [hst1, if_pos ⟨h100, h113⟩, hl1, h123, if_neg (by decide), Nat.add_assoc 57 (10 * wh) 6]
            exact LP_d hL2 _ (by omega)
  intro ls hls
  refine z_pick [0, 1, 2, 3, 4, 5] hls ?_
  refine z_iconst (q := 66) (v := nI 0) dL_step_65 (by rfl) rfl ?_
  refine z_istore (q := 68) dL_step_66 (by decide) rfl ?_
  exact loop 0 (Nat.zero_le _) I hL (fun _ _ => rfl) _ rfl
theorem mv_law : ∀ o t sp : Nat, o < 11 → t < 11 → sp < 11 → (if nI (o + sp) < nI t then nI (o + sp) else if nI t < nI o - nI sp then nI o - nI sp else nI t) = nI o + (if nI sp < nI t - nI o then nI sp else if nI t - nI o < - nI sp then - nI sp else nI t - nI o) ∧ (nI o < nI o + (if nI sp < nI t - nI o then nI sp else if nI t - nI o < - nI sp then - nI sp else nI t - nI o) ↔ 0 < (if nI sp < nI t - nI o then nI sp else if nI t - nI o < - nI sp then - nI sp else nI t - nI o)) := by
  have h : (List.range 11).all (fun o => (List.range 11).all (fun t => (List.range 11).all (fun sp => decide ((if nI (o + sp) < nI t then nI (o + sp) else if nI t < nI o - nI sp then nI o - nI sp else nI t) = nI o + (if nI sp < nI t - nI o then nI sp else if nI t - nI o < - nI sp then - nI sp else nI t - nI o) ∧ (nI o < nI o + (if nI sp < nI t - nI o then nI sp else if nI t - nI o < - nI sp then - nI sp else nI t - nI o) ↔ 0 < (if nI sp < nI t - nI o then nI sp else if nI t - nI o < - nI sp then - nI sp else nI t - nI o)))))) = true := by decide +kernel
  intro o t sp h1 h2 h3
  have a := List.all_eq_true.mp h o (List.mem_range.mpr h1)
  have b := List.all_eq_true.mp a t (List.mem_range.mpr h2)
  have c := List.all_eq_true.mp b sp (List.mem_range.mpr h3)
  exact of_decide_eq_true c
theorem hearN_nI (F : Nat → zE) (x t : Int32) : ∀ n, ∃ c, c ≤ n ∧ hearN F x t n = nI c
  | 0 => ⟨0, Nat.le_refl _, rfl⟩
  | n + 1 => by
    obtain ⟨c, h1, h2⟩ := hearN_nI F x t n
    have hs : hearN F x t (n + 1) = hearN F x t n + if (F n).2.2.1 = x ∧ hcC t (F n) then 1 else 0 := rfl
    rw [hs, h2]
    split
    · exact ⟨c + 1, by omega, nI_1 c⟩
    · exact ⟨c, by omega, Int32.add_zero _⟩
theorem hearN_congr {F H : Nat → zE} {x t : Int32} {n : Nat} (e : ∀ k, k < n → F k = H k) : hearN F x t n = hearN H x t n := sumI_congr (fun k hk => by rw [e k hk])
set_option maxRecDepth 100000 in
set_option maxHeartbeats 4000000 in
theorem step_move {G : zG} {Q : zQ} {n : Nat} {T : zTT} {I : zII} {R : zRR} (b nr nd np np2 st : Nat) (g s : Nat → Int32) (hT : LT T b) (hL : LWP I b np s (planL g np)) (hI : INV nr nd np2 st s) (hE : ∀ k, k < np → EOK nr nd st (ent g k)) (hp : planL s np2 = (planL g np).filter (keepT (nI st))) (h4 : nr ≤ 4) (h4' : nd ≤ 4) (h8 : np ≤ 8) (hst : st < 90000) (kk : ∀ I' : zII, LWP I' b np (movN s nd) (planL g np) → (∀ q, q ≠ b → q ≠ b + 2 → I' q = I q) → ∀ ls : List (Nat × Value), lv_pick ls [0, 1, 2, 3, 4, 5] = [(0, .ref b), (1, .ref (b + 1)), (2, .ref (b + 2)), (3, .ref (b + 3)), (4, .ref (b + 4)), (5, .ref (b + 5))] → z_X G muL_step (1, 1, 8) Q n T I' R 0 0 318 ls []) : ∀ ls : List (Nat × Value), lv_pick ls [0, 1, 2, 3, 4, 5] = [(0, .ref b), (1, .ref (b + 1)), (2, .ref (b + 2)), (3, .ref (b + 3)), (4, .ref (b + 4)), (5, .ref (b + 5))] → z_X G muL_step (1, 1, 8) Q n T I R 0 0 148 ls [] := by
  have hTg := hT.1
  have hTd := hT.2.2.1
  have hTp := hT.2.2.2.2.1
  have loop : ∀ i, i ≤ nd → ∀ I2 : zII, LWP I2 b np (movN s i) (planL g np) → (∀ q, q ≠ b → q ≠ b + 2 → I2 q = I q) → ∀ ls : List (Nat × Value), lv_pick ls [0, 1, 2, 3, 4, 5, 6] = [(0, .ref b), (1, .ref (b + 1)), (2, .ref (b + 2)), (3, .ref (b + 3)), (4, .ref (b + 4)), (5, .ref (b + 5)), (6, .int (nI i))] → z_X G muL_step (1, 1, 8) Q n T I2 R 0 0 151 ls [] := by
    refine z_up (N := nd) _ ?_ ?_
    · intro I2 hL2 hf ls hls
      have g1 : I2 b 1 = nI nd := by
        rw [hL2.1 1 (by decide) (by decide)]
        exact (INV_movN hI nd (Nat.le_refl _)).2.1.1
      refine z_pick [0, 1, 2, 3, 4, 5, 6] hls ?_
      refine z_iload (q := 153) (i := 6) dL_step_151 rfl rfl ?_
      refine z_aload_n (q := 154) dL_step_153 rfl rfl rfl ?_
      refine z_iconst (q := 155) (v := nI 1) dL_step_154 (by rfl) rfl ?_
      refine z_ialdV (q := 156) _ (by with_reducible assumption) (rfl) (by omega) (by decide) (g1) dL_step_155 rfl ?_
      refine z_icmpn_ge (rfl) (rfl) (by omega) (by omega) (tgt := 318) (q := 159) dL_step_156 (by decide) rfl (fun _ => ?_) (fun hc => absurd hc (by omega))
      exact kk I2 hL2 hf _ rfl
    · intro i hi ih I2 hL2 hf ls hls
      have hIi := INV_movN hI i (by omega)
      have hent := fun k => movN_ent s i (by omega) k
      have hsn : movN s (i + 1) = movR (movN s i) i := rfl
      rw [hsn] at ih
      generalize movN s i = h at hL2 hIi hent ih
      have g1 : I2 b 1 = nI nd := by
        rw [hL2.1 1 (by decide) (by decide)]
        exact hIi.2.1.1
      obtain ⟨a, c, ar, sp, de, o, tt, l, ⟨q1, q1'⟩, ⟨q2, q2'⟩, q3, -, ⟨q5, q5'⟩, -, ⟨q7, q7'⟩, ⟨q8, q8'⟩, -⟩ := (hIi.2.2.2.2.2.1 i (by omega)).1 hi
      have hda : I2 (b + 2) (10 * i) = nI a := by rw [LW_d0 hL2 (by omega)]; exact q1
      have hdc : I2 (b + 2) (10 * i + 1) = nI c := by rw [LW_d hL2 (by omega) (by decide)]; exact q2
      have hsp : I2 (b + 2) (10 * i + 3) = nI sp := by rw [LW_d hL2 (by omega) (by decide)]; exact q5
      have ho : I2 (b + 2) (10 * i + 5) = nI o := by rw [LW_d hL2 (by omega) (by decide)]; exact q7
      have ht : I2 (b + 2) (10 * i + 6) = nI tt := by rw [LW_d hL2 (by omega) (by decide)]; exact q8
      obtain ⟨v1, v2⟩ := mv_law o tt sp (by omega) (by omega) (by omega)
      obtain ⟨o', ho1, ho2⟩ := mv_fin o tt sp (by omega) (by omega) (by omega)
      have hmv : mvG h i = if nI sp < nI tt - nI o then nI sp else if nI tt - nI o < - nI sp then - nI sp else nI tt - nI o := by rw [mvG, q5, q8, q7]
      rw [← hmv] at v1 v2 ho2
      have hmA : movA h i = upd h (57 + (10 * i + 5)) (nI o') := by rw [movA, q7, ho2, Nat.add_assoc]
      have hhe : ∀ x : Int32, hearN (ent g) x (nI st) np = hrN (movA h i) x np2 := by
        intro x
        refine hear_hr (nr := nr) (nd := nd) (F := ent g) (by omega) hE ?_ ?_ x
        · rw [hmA, upd_n _ _ (by omega)]
          exact hIi.2.2.2.1
        · refine Eq.trans ?_ hp
          refine planL_congr (fun k hk => ?_)
          rw [hmA]
          exact (ent_congr (fun j h1 h2 => upd_n _ _ (by omega))).trans (hent k)
      rw [ho2] at v1 v2
      have next : ∀ v : Int32, v = nI o' → ∀ ls : List (Nat × Value), lv_pick ls [0, 1, 2, 3, 4, 5, 6, 7, 8, 9] = [(0, .ref b), (1, .ref (b + 1)), (2, .ref (b + 2)), (3, .ref (b + 3)), (4, .ref (b + 4)), (5, .ref (b + 5)), (6, .int (nI i)), (7, .int (nI o)), (8, .int (nI tt)), (9, .int (nI sp))] → z_X G muL_step (1, 1, 8) Q n T I2 R 0 0 239 ls [.int v, .int (nI (10 * i + 5)), .ref (b + 2)] := by
        intro v hv ls hls
        subst hv
        have hL3 := LP_d hL2 (c := 10 * i + 5) (nI o') (by omega)
        rw [← hmA] at hL3
        have hf3 : ∀ q, q ≠ b → q ≠ b + 2 → zw I2 (b + 2) (10 * i + 5) (nI o') q = I q := fun q h1 h2 => by rw [zw_row _ _ h2]; exact hf q h1 h2
        have hda3 : zw I2 (b + 2) (10 * i + 5) (nI o') (b + 2) (10 * i) = nI a := by rw [zw_k _ _ (by omega)]; exact hda
        have hdc3 : zw I2 (b + 2) (10 * i + 5) (nI o') (b + 2) (10 * i + 1) = nI c := by rw [zw_k _ _ (by omega)]; exact hdc
        have ho3 : zw I2 (b + 2) (10 * i + 5) (nI o') (b + 2) (10 * i + 5) = nI o' := zw_s _ _ _ _
        refine z_pick [0, 1, 2, 3, 4, 5, 6, 7, 8, 9] hls ?_
        refine z_iast (q := 240) _ (by with_reducible assumption) (rfl) (by omega) (by decide) dL_step_239 rfl ?_
        generalize zw I2 (b + 2) (10 * i + 5) (nI o') = I3 at hL3 hf3 hda3 hdc3 ho3
        have g3 : I3 b 3 = nI st := by
          rw [hL3.1 3 (by decide) (by decide), hmA, upd_n _ _ (by omega)]
          exact hIi.2.2.2.1
        have g6 : I3 b 6 = movA h i 6 := hL3.1 6 (by decide) (by decide)
        have hcall : ∀ x : Int32, Ct G yL_heard wsL_heard (0, 0, 0) [.ref b, .ref (b + 4), .int x] n T I3 R (z_ret (some (.int (hrN (movA h i) x np2))) n T I3 R) := by
          intro x
          have h1 := c_L_heard G (n := n) (T := T) (I := I3) (R := R) b (b + 4) np x hTg hTp hL3.2.1 (by omega)
          rw [g3, hearN_congr (fun k hk => LW_ent hL3 hk), hhe] at h1
          exact h1
        obtain ⟨ca, ca1, ca2⟩ := hearN_nI (ent g) (nI a) (nI st) np
        obtain ⟨cc, cc1, cc2⟩ := hearN_nI (ent g) (nI c) (nI st) np
        rw [hhe] at ca2 cc2
        have fin : ∀ v : Int32, (v = if 0 < mvG h i ∧ 0 < hrN (movA h i) (nI a) np2 + hrN (movA h i) (nI c) np2 then 1 else 0) → ∀ ls : List (Nat × Value), lv_pick ls [0, 1, 2, 3, 4, 5, 6] = [(0, .ref b), (1, .ref (b + 1)), (2, .ref (b + 2)), (3, .ref (b + 3)), (4, .ref (b + 4)), (5, .ref (b + 5)), (6, .int (nI i))] → z_X G muL_step (1, 1, 8) Q n T I3 R 0 0 310 ls [.int v, .int (movA h i 6), .int (nI 6), .ref b] := by
          intro v hv ls hls
          refine z_pick [0, 1, 2, 3, 4, 5, 6] hls ?_
          refine z_iadd (q := 311) dL_step_310 rfl ?_
          refine z_iast (q := 312) _ (by with_reducible assumption) (rfl) (by omega) (by decide) dL_step_311 rfl ?_
          refine z_iinc (q := 315) dL_step_312 rfl (nI_add _ 1) (by decide) rfl ?_
          refine z_goto (q := 151) dL_step_315 (by decide) ?_
          refine ih _ ?_ (fun q h1 h2 => by rw [zw_row _ _ h1]; exact hf3 q h1 h2) _ rfl
          have hR : movR h i = upd (movA h i) 6 (movA h i 6 + v) := by
            rw [movR, hv, gN_of hIi.2.2.1.1 (by have := hIi.2.2.1.2; omega), show h (57 + 10 * i) = nI a from q1, q2]
          rw [hR]
          exact LP_g hL3 _ (by decide) (by decide)
        have hsum : (0 < hrN (movA h i) (nI a) np2 + hrN (movA h i) (nI c) np2) ↔ (0 < ca ∨ 0 < cc) := by
          rw [ca2, cc2, nI_add, ← nI_0, nI_ltI (by omega) (by omega)]
          omega
        have tail : ∀ v : Nat, (v = if 0 < ca ∨ 0 < cc then 1 else 0) → ∀ ls : List (Nat × Value), lv_pick ls [0, 1, 2, 3, 4, 5, 6, 7, 8, 9] = [(0, .ref b), (1, .ref (b + 1)), (2, .ref (b + 2)), (3, .ref (b + 3)), (4, .ref (b + 4)), (5, .ref (b + 5)), (6, .int (nI i)), (7, .int (nI o)), (8, .int (nI tt)), (9, .int (nI sp))] → z_X G muL_step (1, 1, 8) Q n T I3 R 0 0 279 ls [.int (nI v)] := by
          intro v hv ls hls
          refine z_pick [0, 1, 2, 3, 4, 5, 6, 7, 8, 9] hls ?_
          refine z_istore (q := 281) dL_step_279 (by decide) rfl ?_
          refine z_aload_n (q := 282) dL_step_281 rfl rfl rfl ?_
          refine z_bipush (q := 284) (v := nI 6) dL_step_282 (by rfl) rfl ?_
          refine z_dup2 (q := 285) dL_step_284 rfl rfl rfl ?_
          refine z_ialdV (q := 286) _ (by with_reducible assumption) (rfl) (by omega) (by decide) (g6) dL_step_285 rfl ?_
          refine z_iload (q := 288) (i := 10) dL_step_286 rfl rfl ?_
          by_cases hz : 0 < ca ∨ 0 < cc
          · rw [if_pos hz] at hv
            subst hv
            refine z_if_eq (tgt := 309) (q := 291) dL_step_288 (by decide) rfl (fun hc => False.elim (absurd hc (by decide))) (fun _ => ?_)
            refine z_aload_n (q := 292) dL_step_291 rfl rfl rfl ?_
            refine z_bipush (q := 294) (v := nI 10) dL_step_292 (by rfl) rfl ?_
            refine z_iload (q := 296) (i := 6) dL_step_294 rfl rfl ?_
            refine z_imulE (q := 297) dL_step_296 (pk_mul _ _) rfl ?_
            refine z_iconst (q := 298) (v := nI 5) dL_step_297 (by rfl) rfl ?_
            refine z_iaddE (q := 299) dL_step_298 (nI_add _ _) rfl ?_
            refine z_ialdV (q := 300) _ (by with_reducible assumption) (rfl) (by omega) (by decide) (ho3) dL_step_299 rfl ?_
            refine z_iload (q := 302) (i := 7) dL_step_300 rfl rfl ?_
            refine z_icmpn_le (rfl) (rfl) (by omega) (by omega) (tgt := 309) (q := 305) dL_step_302 (by decide) rfl (fun h302 => ?_) (fun h302 => ?_)
            · refine z_iconst (q := 310) (v := nI 0) dL_step_309 (by rfl) rfl ?_
              exact fin _ (by rw [if_neg (fun z => absurd (v2.mpr z.1) (nI_nlt h302 (by omega)))]; rfl) _ rfl
            · refine z_iconst (q := 306) (v := nI 1) dL_step_305 (by rfl) rfl ?_
              refine z_goto (q := 310) dL_step_306 (by decide) ?_
              exact fin _ (by rw [if_pos ⟨v2.mp (nI_lt h302 (by omega)), hsum.mpr hz⟩]; rfl) _ rfl
          · rw [if_neg hz] at hv
            subst hv
            refine z_if_eq (tgt := 309) (q := 291) dL_step_288 (by decide) rfl (fun _ => ?_) (fun hc => False.elim (hc nI_0))
            refine z_iconst (q := 310) (v := nI 0) dL_step_309 (by rfl) rfl ?_
            exact fin _ (by rw [if_neg (fun z => hz (hsum.mp z.2))]; rfl) _ rfl
        refine z_aload_n (q := 241) dL_step_240 rfl rfl rfl ?_
        refine z_aload (q := 243) dL_step_241 rfl rfl ?_
        refine z_aload_n (q := 244) dL_step_243 rfl rfl rfl ?_
        refine z_bipush (q := 246) (v := nI 10) dL_step_244 (by rfl) rfl ?_
        refine z_iload (q := 248) (i := 6) dL_step_246 rfl rfl ?_
        refine z_imulE (q := 249) dL_step_248 (pk_mul _ _) rfl ?_
        refine z_ialdV (q := 250) _ (by with_reducible assumption) (rfl) (by omega) (by decide) (hda3) dL_step_249 rfl ?_
        refine z_invS (q := 253) (hcall (nI a)) gL_step_L_heard rfl hy_L_heard rfl rfl rfl rfl (Nat.le_of_ble_eq_true rfl) ⟨Nat.zero_le _, Nat.zero_le _⟩ dL_step_250 rfl (z_rv ?_)
        rw [ca2]
        refine z_if_gt (tgt := 274) (q := 256) dL_step_253 (by decide) rfl (fun h253 => ?_) (fun h253 => ?_)
        · refine z_iconst (q := 275) (v := nI 1) dL_step_274 (by rfl) rfl ?_
          refine z_goto (q := 279) dL_step_275 (by decide) ?_
          exact tail 1 (by rw [if_pos (Or.inl (by rw [← nI_0] at h253; exact (nI_ltI (by omega) (by omega)).mp h253))]) _ rfl
        · have hca : ¬ 0 < ca := fun z => h253 (by rw [← nI_0]; exact nI_lt z (by omega))
          refine z_aload_n (q := 257) dL_step_256 rfl rfl rfl ?_
          refine z_aload (q := 259) dL_step_257 rfl rfl ?_
          refine z_aload_n (q := 260) dL_step_259 rfl rfl rfl ?_
          refine z_bipush (q := 262) (v := nI 10) dL_step_260 (by rfl) rfl ?_
          refine z_iload (q := 264) (i := 6) dL_step_262 rfl rfl ?_
          refine z_imulE (q := 265) dL_step_264 (pk_mul _ _) rfl ?_
          refine z_iconst (q := 266) (v := nI 1) dL_step_265 (by rfl) rfl ?_
          refine z_iaddE (q := 267) dL_step_266 (nI_add _ _) rfl ?_
          refine z_ialdV (q := 268) _ (by with_reducible assumption) (rfl) (by omega) (by decide) (hdc3) dL_step_267 rfl ?_
          refine z_invS (q := 271) (hcall (nI c)) gL_step_L_heard rfl hy_L_heard rfl rfl rfl rfl (Nat.le_of_ble_eq_true rfl) ⟨Nat.zero_le _, Nat.zero_le _⟩ dL_step_268 rfl (z_rv ?_)
          rw [cc2]
          refine z_if_le (tgt := 278) (q := 274) dL_step_271 (by decide) rfl (fun h271 => ?_) (fun h271 => ?_)
          · refine z_iconst (q := 279) (v := nI 0) dL_step_278 (by rfl) rfl ?_
            exact tail 0 (by rw [if_neg (fun z => z.elim hca (fun y => nI_nle y (by omega) h271))]) _ rfl
          · refine z_iconst (q := 275) (v := nI 1) dL_step_274 (by rfl) rfl ?_
            refine z_goto (q := 279) dL_step_275 (by decide) ?_
            exact tail 1 (by rw [if_pos (Or.inr (Nat.pos_of_ne_zero (fun y => h271 (by rw [y]; decide))))]) _ rfl
      refine z_pick [0, 1, 2, 3, 4, 5, 6] hls ?_
      refine z_iload (q := 153) (i := 6) dL_step_151 rfl rfl ?_
      refine z_aload_n (q := 154) dL_step_153 rfl rfl rfl ?_
      refine z_iconst (q := 155) (v := nI 1) dL_step_154 (by rfl) rfl ?_
      refine z_ialdV (q := 156) _ (by with_reducible assumption) (rfl) (by omega) (by decide) (g1) dL_step_155 rfl ?_
      refine z_icmpn_ge (rfl) (rfl) (by omega) (by omega) (tgt := 318) (q := 159) dL_step_156 (by decide) rfl (fun hc => absurd hc (by omega)) (fun _ => ?_)
      refine z_aload_n (q := 160) dL_step_159 rfl rfl rfl ?_
      refine z_bipush (q := 162) (v := nI 10) dL_step_160 (by rfl) rfl ?_
      refine z_iload (q := 164) (i := 6) dL_step_162 rfl rfl ?_
      refine z_imulE (q := 165) dL_step_164 (pk_mul _ _) rfl ?_
      refine z_iconst (q := 166) (v := nI 5) dL_step_165 (by rfl) rfl ?_
      refine z_iaddE (q := 167) dL_step_166 (nI_add _ _) rfl ?_
      refine z_ialdV (q := 168) _ (by with_reducible assumption) (rfl) (by omega) (by decide) (ho) dL_step_167 rfl ?_
      refine z_istore (q := 170) dL_step_168 (by decide) rfl ?_
      refine z_aload_n (q := 171) dL_step_170 rfl rfl rfl ?_
      refine z_bipush (q := 173) (v := nI 10) dL_step_171 (by rfl) rfl ?_
      refine z_iload (q := 175) (i := 6) dL_step_173 rfl rfl ?_
      refine z_imulE (q := 176) dL_step_175 (pk_mul _ _) rfl ?_
      refine z_bipush (q := 178) (v := nI 6) dL_step_176 (by rfl) rfl ?_
      refine z_iaddE (q := 179) dL_step_178 (nI_add _ _) rfl ?_
      refine z_ialdV (q := 180) _ (by with_reducible assumption) (rfl) (by omega) (by decide) (ht) dL_step_179 rfl ?_
      refine z_istore (q := 182) dL_step_180 (by decide) rfl ?_
      refine z_aload_n (q := 183) dL_step_182 rfl rfl rfl ?_
      refine z_bipush (q := 185) (v := nI 10) dL_step_183 (by rfl) rfl ?_
      refine z_iload (q := 187) (i := 6) dL_step_185 rfl rfl ?_
      refine z_imulE (q := 188) dL_step_187 (pk_mul _ _) rfl ?_
      refine z_iconst (q := 189) (v := nI 3) dL_step_188 (by rfl) rfl ?_
      refine z_iaddE (q := 190) dL_step_189 (nI_add _ _) rfl ?_
      refine z_ialdV (q := 191) _ (by with_reducible assumption) (rfl) (by omega) (by decide) (hsp) dL_step_190 rfl ?_
      refine z_istore (q := 193) dL_step_191 (by decide) rfl ?_
      refine z_aload_n (q := 194) dL_step_193 rfl rfl rfl ?_
      refine z_bipush (q := 196) (v := nI 10) dL_step_194 (by rfl) rfl ?_
      refine z_iload (q := 198) (i := 6) dL_step_196 rfl rfl ?_
      refine z_imulE (q := 199) dL_step_198 (pk_mul _ _) rfl ?_
      refine z_iconst (q := 200) (v := nI 5) dL_step_199 (by rfl) rfl ?_
      refine z_iaddE (q := 201) dL_step_200 (nI_add _ _) rfl ?_
      refine z_iload (q := 203) (i := 8) dL_step_201 rfl rfl ?_
      refine z_iload (q := 205) (i := 7) dL_step_203 rfl rfl ?_
      refine z_iload (q := 207) (i := 9) dL_step_205 rfl rfl ?_
      refine z_iaddE (q := 208) dL_step_207 (nI_add _ _) rfl ?_
      refine z_icmpn_le (rfl) (rfl) (by omega) (by omega) (tgt := 219) (q := 211) dL_step_208 (by decide) rfl (fun h208 => ?_) (fun h208 => ?_)
      · rw [if_neg (nI_nlt h208 (by omega))] at v1
        refine z_iload (q := 221) (i := 8) dL_step_219 rfl rfl ?_
        refine z_iload (q := 223) (i := 7) dL_step_221 rfl rfl ?_
        refine z_iload (q := 225) (i := 9) dL_step_223 rfl rfl ?_
        refine z_isub (q := 226) dL_step_225 rfl ?_
        refine z_icmp_ge (tgt := 237) (q := 229) dL_step_226 (by decide) rfl (fun h226 => ?_) (fun h226 => ?_)
        · refine z_iload (q := 239) (i := 8) dL_step_237 rfl rfl ?_
          exact next _ (by rw [← v1, if_neg (Int32.not_lt.mpr h226)]) _ rfl
        · refine z_iload (q := 231) (i := 7) dL_step_229 rfl rfl ?_
          refine z_iload (q := 233) (i := 9) dL_step_231 rfl rfl ?_
          refine z_isub (q := 234) dL_step_233 rfl ?_
          refine z_goto (q := 239) dL_step_234 (by decide) ?_
          exact next _ (by rw [← v1, if_pos (Int32.not_le.mp h226)]) _ rfl
      · rw [if_pos (nI_lt h208 (by omega))] at v1
        refine z_iload (q := 213) (i := 7) dL_step_211 rfl rfl ?_
        refine z_iload (q := 215) (i := 9) dL_step_213 rfl rfl ?_
        refine z_iaddE (q := 216) dL_step_215 (nI_add _ _) rfl ?_
        refine z_goto (q := 239) dL_step_216 (by decide) ?_
        exact next _ v1 _ rfl
  intro ls hls
  refine z_pick [0, 1, 2, 3, 4, 5] hls ?_
  refine z_iconst (q := 149) (v := nI 0) dL_step_148 (by rfl) rfl ?_
  refine z_istore (q := 151) dL_step_149 (by decide) rfl ?_
  exact loop 0 (Nat.zero_le _) I hL (fun _ _ _ => rfl) _ rfl

