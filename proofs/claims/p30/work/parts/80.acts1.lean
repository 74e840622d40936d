/-! THE LAW's acts: the class's object and the law's own house go together -/
def LST (T : zTT) (R : zRR) (I : zII) (x b S B : Nat) : Prop := ∃ (g : Nat → Int32) (p : Nat → Nat → Int32) (pc nr nd np st : Nat) (W : Int), z_St T R I x g p pc (fun _ => 0) 0 ∧ LWP I b np g (planL g np) ∧ PH nr nd np st B W g ∧ st ≤ S
abbrev actQ (n : Nat) (T : zTT) (x b S B : Nat) : zQ := fun r n' T' I' R' => r = some (.int 1) ∧ n ≤ n' ∧ T' = T ∧ LST T R' I' x b S B
theorem St_f {T : zTT} {R R' : zRR} {I I' : zII} {x pc y : Nat} {g tx : Nat → Int32} {p : Nat → Nat → Int32} (h : z_St T R I x g p pc tx y) (hf : ∀ q, x ≤ q → q < x + 595 → I' q = I q ∧ R' q = R q) : z_St T R' I' x g p pc tx y := by
  obtain ⟨h1, h2, ⟨st', g', h3⟩, h4, ⟨h5, h6⟩, h7, h8⟩ := h
  exact ⟨z_RT_R h1 (hf x (by omega) (by omega)).2 (hf (x + 591) (by omega) (by omega)).2, z_Hb_f h2 (fun q q1 q2 => (hf q (by omega) (by omega)).1) (fun q q1 q2 => (hf q (by omega) (by omega)).2), ⟨st', g', z_Hs_f h3 (fun q q1 q2 => (hf q (by omega) (by omega)).1) (fun q q1 q2 => (hf q (by omega) (by omega)).2)⟩, z_Hist_f h4 (fun q q1 q2 => (hf q (by omega) (by omega)).1) (fun q q1 q2 => (hf q (by omega) (by omega)).2), ⟨by rw [(hf _ (by omega) (by omega)).1]; exact h5, h6⟩, by rw [(hf _ (by omega) (by omega)).1]; exact h7, h8⟩
theorem call_none {G : zG} {n : Nat} {T : zTT} {I : zII} {R : zRR} {x pc y d : Nat} {g tx : Nat → Int32} {p : Nat → Nat → Int32} {m : MethodName} {ws : List Cond} {As : List Value} {sp : Int32 × Option (Nat → Int32)} {v : Int32} (h : Ct G m ws (d, 0, 0) As n T I R (z_rel (some (.int sp.1)) n T (fun I' R' => z_nx T R' I' x g p pc tx y sp.2 ∧ z_fx x I I' R R'))) (e : sp = (v, none)) : Ct G m ws (d, 0, 0) As n T I R (z_rel (some (.int v)) n T (fun I' R' => z_St T R' I' x g p pc tx y ∧ z_fx x I I' R R')) := by
  subst e
  exact h
theorem call_some {G : zG} {n : Nat} {T : zTT} {I : zII} {R : zRR} {x pc y d : Nat} {g g' tx : Nat → Int32} {p : Nat → Nat → Int32} {m : MethodName} {ws : List Cond} {As : List Value} {sp : Int32 × Option (Nat → Int32)} {v : Int32} (h : Ct G m ws (d, 0, 0) As n T I R (z_rel (some (.int sp.1)) n T (fun I' R' => z_nx T R' I' x g p pc tx y sp.2 ∧ z_fx x I I' R R'))) (e : sp = (v, some g')) : Ct G m ws (d, 0, 0) As n T I R (z_rel (some (.int v)) n T (fun I' R' => z_St T R' I' x g' (pushP p pc g) (chC pc + 1) tx y ∧ z_fx x I I' R R')) := by
  subst e
  exact h
theorem LP_x {I I' : zII} {R R' : zRR} {x b np : Nat} {s : Nat → Int32} {M : List zE} (hb : b = x + 595) (hL : LWP I b np s M) (hf : z_fx x I I' R R') : LWP I' b np s M := LP_f hL (fun q q1 q2 => (hf q (Or.inr (by omega))).1)
set_option maxRecDepth 100000 in
set_option maxHeartbeats 4000000 in
theorem act_room {G : zG} {n : Nat} {T : zTT} {I : zII} {R : zRR} (x b nr nd np st Bu pc v y S2 B2 : Nat) (W : Int) (z : Int32) (g : Nat → Int32) (p : Nat → Nat → Int32) (hb : b = x + 595) (hT : LT T b) (hS : z_St T R I x g p pc (fun _ => 0) 0) (hL : LWP I b np g (planL g np)) (hH : PH nr nd np st Bu W g) (hst : st ≤ 4000) (hv : v < 10000000) (hS2 : st ≤ S2) (hB2 : Bu ≤ B2) : ∀ ls : List (Nat × Value), lv_pick ls [0, 1, 2, 3, 4, 5, 6, 7, 8, 9] = [(0, .ref x), (1, .ref b), (2, .ref (b + 1)), (3, .ref (b + 2)), (4, .ref (b + 3)), (5, .ref (b + 4)), (6, .ref (b + 5)), (7, .int z), (8, .int (nI v)), (9, .int (nI y))] → z_X G muL_acts (6, 6, 54) (actQ n T x b S2 B2) n T I R 0 0 31 ls [] := by
  have hTx := hS.1.1
  have hTg := hT.1
  have hTr := hT.2.1
  have hTd := hT.2.2.1
  have hTy := hT.2.2.2.1
  have hTp := hT.2.2.2.2.1
  have hI := hH.1
  obtain ⟨h4, h4', h8⟩ := hH.2.1
  have g0 : I b 0 = nI nr := by rw [hL.1 0 (by decide) (by decide)]; exact hI.1.1
  have g1 : I b 1 = nI nd := by rw [hL.1 1 (by decide) (by decide)]; exact hI.2.1.1
  have g2 : I b 2 = nI np := hL.2.1
  have g3 : I b 3 = nI st := by rw [hL.1 3 (by decide) (by decide)]; exact hI.2.2.2.1
  intro ls hls
  refine z_pick [0, 1, 2, 3, 4, 5, 6, 7, 8, 9] hls ?_
  refine z_aload_n (q := 32) dL_acts_31 rfl rfl rfl ?_
  refine z_iconst (q := 33) (v := nI 0) dL_acts_32 (by rfl) rfl ?_
  refine z_ialdV (q := 34) _ (by with_reducible assumption) (rfl) (by omega) (by decide) (g0) dL_acts_33 rfl ?_
  refine z_iconst (q := 35) (v := nI 4) dL_acts_34 (by rfl) rfl ?_
  refine z_icmpn_ne (rfl) (rfl) (by omega) (by omega) (tgt := 68) (q := 38) dL_acts_35 (by decide) rfl (fun h35 => ?_) (fun h35 => ?_)
  · have hRM := hI.2.2.2.2.1 nr (by omega)
    have hz := (hRM.2 (Nat.le_refl _)).1
    have next : ∀ V A : Nat, 10 ≤ V → V ≤ 10000 → A ≤ 1000 → ∀ ls : List (Nat × Value), lv_pick ls [0, 1, 2, 3, 4, 5, 6, 7, 8, 9, 10] = [(0, .ref x), (1, .ref b), (2, .ref (b + 1)), (3, .ref (b + 2)), (4, .ref (b + 3)), (5, .ref (b + 4)), (6, .ref (b + 5)), (7, .int z), (8, .int (nI v)), (9, .int (nI y)), (10, .int (nI nr))] → z_X G muL_acts (6, 6, 54) (actQ n T x b S2 B2) n T (zw I (b + 1) (6 * nr) (nI V)) R 0 0 130 ls [.int (nI A), .int (nI (6 * nr + 1)), .ref (b + 1)] := by
      intro V A hV1 hV2 hA ls hls
      have l1 := LP_r hL (c := 6 * nr) (nI V) (by omega)
      have l2 := LP_r l1 (c := 6 * nr + 1) (nI A) (by omega)
      have l3 := LP_r l2 (c := 6 * nr + 2) (nI 0) (by omega)
      have l4 := LP_r l3 (c := 6 * nr + 3) (nI 0) (by omega)
      have l5 := LP_r l4 (c := 6 * nr + 4) (nI 0) (by omega)
      have l6 := LP_r l5 (c := 6 * nr + 5) (nI st) (by omega)
      have l7 := LP_g l6 (c := 0) (nI (nr + 1)) (by decide) (by decide)
      have k3 : zw (zw (zw (zw (zw I (b + 1) (6 * nr) (nI V)) (b + 1) (6 * nr + 1) (nI A)) (b + 1) (6 * nr + 2) (nI 0)) (b + 1) (6 * nr + 3) (nI 0)) (b + 1) (6 * nr + 4) (nI 0) b 3 = nI st := by
        rw [zw_row _ _ (by omega), zw_row _ _ (by omega), zw_row _ _ (by omega), zw_row _ _ (by omega), zw_row _ _ (by omega)]; exact g3
      have k0 : zw (zw (zw (zw (zw (zw I (b + 1) (6 * nr) (nI V)) (b + 1) (6 * nr + 1) (nI A)) (b + 1) (6 * nr + 2) (nI 0)) (b + 1) (6 * nr + 3) (nI 0)) (b + 1) (6 * nr + 4) (nI 0)) (b + 1) (6 * nr + 5) (nI st) b 0 = nI nr := by
        rw [zw_row _ _ (by omega), zw_row _ _ (by omega), zw_row _ _ (by omega), zw_row _ _ (by omega), zw_row _ _ (by omega), zw_row _ _ (by omega)]; exact g0
      refine z_pick [0, 1, 2, 3, 4, 5, 6, 7, 8, 9, 10] hls ?_
      refine z_iast (q := 131) _ (by with_reducible assumption) (rfl) (by omega) (by decide) dL_acts_130 rfl ?_
      refine z_aload_n (q := 132) dL_acts_131 rfl rfl rfl ?_
      refine z_bipush (q := 134) (v := nI 6) dL_acts_132 (by rfl) rfl ?_
      refine z_iload (q := 136) (i := 10) dL_acts_134 rfl rfl ?_
      refine z_imulE (q := 137) dL_acts_136 (pk_mul _ _) rfl ?_
      refine z_iconst (q := 138) (v := nI 2) dL_acts_137 (by rfl) rfl ?_
      refine z_iaddE (q := 139) dL_acts_138 (nI_add _ _) rfl ?_
      refine z_iconst (q := 140) (v := nI 0) dL_acts_139 (by rfl) rfl ?_
      refine z_iast (q := 141) _ (by with_reducible assumption) (rfl) (by omega) (by decide) dL_acts_140 rfl ?_
      refine z_aload_n (q := 142) dL_acts_141 rfl rfl rfl ?_
      refine z_bipush (q := 144) (v := nI 6) dL_acts_142 (by rfl) rfl ?_
      refine z_iload (q := 146) (i := 10) dL_acts_144 rfl rfl ?_
      refine z_imulE (q := 147) dL_acts_146 (pk_mul _ _) rfl ?_
      refine z_iconst (q := 148) (v := nI 3) dL_acts_147 (by rfl) rfl ?_
      refine z_iaddE (q := 149) dL_acts_148 (nI_add _ _) rfl ?_
      refine z_iconst (q := 150) (v := nI 0) dL_acts_149 (by rfl) rfl ?_
      refine z_iast (q := 151) _ (by with_reducible assumption) (rfl) (by omega) (by decide) dL_acts_150 rfl ?_
      refine z_aload_n (q := 152) dL_acts_151 rfl rfl rfl ?_
      refine z_bipush (q := 154) (v := nI 6) dL_acts_152 (by rfl) rfl ?_
      refine z_iload (q := 156) (i := 10) dL_acts_154 rfl rfl ?_
      refine z_imulE (q := 157) dL_acts_156 (pk_mul _ _) rfl ?_
      refine z_iconst (q := 158) (v := nI 4) dL_acts_157 (by rfl) rfl ?_
      refine z_iaddE (q := 159) dL_acts_158 (nI_add _ _) rfl ?_
      refine z_iconst (q := 160) (v := nI 0) dL_acts_159 (by rfl) rfl ?_
      refine z_iast (q := 161) _ (by with_reducible assumption) (rfl) (by omega) (by decide) dL_acts_160 rfl ?_
      refine z_aload_n (q := 162) dL_acts_161 rfl rfl rfl ?_
      refine z_bipush (q := 164) (v := nI 6) dL_acts_162 (by rfl) rfl ?_
      refine z_iload (q := 166) (i := 10) dL_acts_164 rfl rfl ?_
      refine z_imulE (q := 167) dL_acts_166 (pk_mul _ _) rfl ?_
      refine z_iconst (q := 168) (v := nI 5) dL_acts_167 (by rfl) rfl ?_
      refine z_iaddE (q := 169) dL_acts_168 (nI_add _ _) rfl ?_
      refine z_aload_n (q := 170) dL_acts_169 rfl rfl rfl ?_
      refine z_iconst (q := 171) (v := nI 3) dL_acts_170 (by rfl) rfl ?_
      refine z_ialdV (q := 172) _ (by with_reducible assumption) (rfl) (by omega) (by decide) (k3) dL_acts_171 rfl ?_
      refine z_iast (q := 173) _ (by with_reducible assumption) (rfl) (by omega) (by decide) dL_acts_172 rfl ?_
      refine z_aload_n (q := 174) dL_acts_173 rfl rfl rfl ?_
      refine z_iconst (q := 175) (v := nI 0) dL_acts_174 (by rfl) rfl ?_
      refine z_dup2 (q := 176) dL_acts_175 rfl rfl rfl ?_
      refine z_ialdV (q := 177) _ (by with_reducible assumption) (rfl) (by omega) (by decide) (k0) dL_acts_176 rfl ?_
      refine z_iconst (q := 178) (v := nI 1) dL_acts_177 (by rfl) rfl ?_
      refine z_iaddE (q := 179) dL_acts_178 (nI_add _ _) rfl ?_
      refine z_iast (q := 180) _ (by with_reducible assumption) (rfl) (by omega) (by decide) dL_acts_179 rfl ?_
      have hL7 : LWP _ b np (roomG g nr (nI V) (nI A)) (planL g np) := LP_s l7 (fun c _ hc2 => by
        rw [roomG_e hI (by omega), ← Nat.add_assoc, ← Nat.add_assoc, ← Nat.add_assoc, ← Nat.add_assoc, ← Nat.add_assoc]
        have e2 := hz 2 (by decide)
        have e3 := hz 3 (by decide)
        have e4 := hz 4 (by decide)
        by_cases c0 : c = 0
        · rw [c0, upd_s, upd_s]
        · rw [upd_n _ _ c0, upd_n _ _ c0]
          by_cases c5 : c = 9 + 6 * nr + 5
          · rw [c5, upd_s, upd_s]; exact hI.2.2.2.1
          · rw [upd_n _ _ c5, upd_n _ _ c5]
            by_cases c4 : c = 9 + 6 * nr + 4
            · rw [c4, upd_s, upd_n _ _ (by omega), upd_n _ _ (by omega), e4]; exact nI_0.symm
            · rw [upd_n (k := 9 + 6 * nr + 4) _ _ c4]
              by_cases c3 : c = 9 + 6 * nr + 3
              · rw [c3, upd_s, upd_n _ _ (by omega), upd_n _ _ (by omega), e3]; exact nI_0.symm
              · rw [upd_n (k := 9 + 6 * nr + 3) _ _ c3]
                by_cases c2 : c = 9 + 6 * nr + 2
                · rw [c2, upd_s, upd_n _ _ (by omega), upd_n _ _ (by omega), e2]; exact nI_0.symm
                · rw [upd_n (k := 9 + 6 * nr + 2) _ _ c2]
                  rfl)
      have r0 : zw (zw (zw (zw (zw (zw (zw I (b + 1) (6 * nr) (nI V)) (b + 1) (6 * nr + 1) (nI A)) (b + 1) (6 * nr + 2) (nI 0)) (b + 1) (6 * nr + 3) (nI 0)) (b + 1) (6 * nr + 4) (nI 0)) (b + 1) (6 * nr + 5) (nI st)) b 0 (nI (nr + 1)) (b + 1) (6 * nr) = nI V := by
        rw [zw_row _ _ (by omega), zw_k _ _ (by omega), zw_k _ _ (by omega), zw_k _ _ (by omega), zw_k _ _ (by omega), zw_k _ _ (by omega), zw_s]
      have r1 : zw (zw (zw (zw (zw (zw (zw I (b + 1) (6 * nr) (nI V)) (b + 1) (6 * nr + 1) (nI A)) (b + 1) (6 * nr + 2) (nI 0)) (b + 1) (6 * nr + 3) (nI 0)) (b + 1) (6 * nr + 4) (nI 0)) (b + 1) (6 * nr + 5) (nI st)) b 0 (nI (nr + 1)) (b + 1) (6 * nr + 1) = nI A := by
        rw [zw_row _ _ (by omega), zw_k _ _ (by omega), zw_k _ _ (by omega), zw_k _ _ (by omega), zw_k _ _ (by omega), zw_s]
      have hS7 : z_St T R (zw (zw (zw (zw (zw (zw (zw I (b + 1) (6 * nr) (nI V)) (b + 1) (6 * nr + 1) (nI A)) (b + 1) (6 * nr + 2) (nI 0)) (b + 1) (6 * nr + 3) (nI 0)) (b + 1) (6 * nr + 4) (nI 0)) (b + 1) (6 * nr + 5) (nI st)) b 0 (nI (nr + 1))) x g p pc (fun _ => 0) 0 := St_f hS (fun q q1 q2 => ⟨by
        rw [zw_row _ _ (by omega), zw_row _ _ (by omega), zw_row _ _ (by omega), zw_row _ _ (by omega), zw_row _ _ (by omega), zw_row _ _ (by omega), zw_row _ _ (by omega)], rfl⟩)
      generalize zw (zw (zw (zw (zw (zw (zw I (b + 1) (6 * nr) (nI V)) (b + 1) (6 * nr + 1) (nI A)) (b + 1) (6 * nr + 2) (nI 0)) (b + 1) (6 * nr + 3) (nI 0)) (b + 1) (6 * nr + 4) (nI 0)) (b + 1) (6 * nr + 5) (nI st)) b 0 (nI (nr + 1)) = I7 at hL7 r0 r1 hS7
      have hsp : sp_room g (nI V) (nI A) = (nI nr, some (roomG g nr (nI V) (nI A))) := by
        rw [sp_room, if_neg (fun y => y.elim (nI_nlt hV1 (by omega)) (nI_nlt hV2 (by omega))), if_neg (fun y => y.elim (nI_nlt (Nat.zero_le _) (by omega)) (nI_nlt hA (by omega))), gN_of hI.1.1 (by omega), if_neg (by omega), hI.1.1]
      refine z_aload_n (q := 181) dL_acts_180 rfl rfl rfl ?_
      refine z_aload_n (q := 182) dL_acts_181 rfl rfl rfl ?_
      refine z_bipush (q := 184) (v := nI 6) dL_acts_182 (by rfl) rfl ?_
      refine z_iload (q := 186) (i := 10) dL_acts_184 rfl rfl ?_
      refine z_imulE (q := 187) dL_acts_186 (pk_mul _ _) rfl ?_
      refine z_ialdV (q := 188) _ (by with_reducible assumption) (rfl) (by omega) (by decide) (r0) dL_acts_187 rfl ?_
      refine z_aload_n (q := 189) dL_acts_188 rfl rfl rfl ?_
      refine z_bipush (q := 191) (v := nI 6) dL_acts_189 (by rfl) rfl ?_
      refine z_iload (q := 193) (i := 10) dL_acts_191 rfl rfl ?_
      refine z_imulE (q := 194) dL_acts_193 (pk_mul _ _) rfl ?_
      refine z_iconst (q := 195) (v := nI 1) dL_acts_194 (by rfl) rfl ?_
      refine z_iaddE (q := 196) dL_acts_195 (nI_add _ _) rfl ?_
      refine z_ialdV (q := 197) _ (by with_reducible assumption) (rfl) (by omega) (by decide) (r1) dL_acts_196 rfl ?_
      refine z_invV (q := 200) (call_some (c_X7_room G x pc 0 g (fun _ => 0) p hS7 (nI V) (nI A)) hsp) (by with_reducible assumption) rfl gL_acts_X7_room rfl hy_X7_room rfl rfl rfl rfl (Nat.le_of_ble_eq_true rfl) ⟨Nat.zero_le _, Nat.zero_le _⟩ dL_acts_197 rfl (z_rvR fun I8 R8 hZ => ?_)
      refine z_iload (q := 202) (i := 10) dL_acts_200 rfl rfl ?_
      obtain ⟨hS8, hf8⟩ := hZ
      refine z_icmp_ne (tgt := 209) (q := 205) dL_acts_202 (by decide) rfl (fun hc => False.elim (hc rfl)) (fun _ => ?_)
      refine z_iconst (q := 206) (v := nI 1) dL_acts_205 (by rfl) rfl ?_
      refine z_goto (q := 210) dL_acts_206 (by decide) ?_
      exact z_zret rfl (by rfl) dL_acts_210 (by decide) (by decide) (⟨by rw [zI1], Nat.le_refl _, rfl, roomG g nr (nI V) (nI A), pushP p pc g, chC pc + 1, nr + 1, nd, np, st, W, hS8, (planL_congr (fun k hk => ent_congr (fun j j1 j2 => by rw [roomG_e hI (by omega), upd_n _ _ (by omega), upd_n _ _ (by omega), upd_n _ _ (by omega), upd_n _ _ (by omega)])) : planL (roomG g nr (nI V) (nI A)) np = planL g np) ▸ LP_x hb hL7 hf8, PH_mono (PH_room hH (by omega) (by omega) hV1 hV2 hA) hB2, hS2⟩)
    have next1 : ∀ V : Nat, 10 ≤ V → V ≤ 10000 → ∀ ls : List (Nat × Value), lv_pick ls [0, 1, 2, 3, 4, 5, 6, 7, 8, 9, 10] = [(0, .ref x), (1, .ref b), (2, .ref (b + 1)), (3, .ref (b + 2)), (4, .ref (b + 3)), (5, .ref (b + 4)), (6, .ref (b + 5)), (7, .int z), (8, .int (nI v)), (9, .int (nI y)), (10, .int (nI nr))] → z_X G muL_acts (6, 6, 54) (actQ n T x b S2 B2) n T I R 0 0 100 ls [.int (nI V), .int (nI (6 * nr)), .ref (b + 1)] := by
      intro V hV1 hV2 ls hls
      refine z_pick [0, 1, 2, 3, 4, 5, 6, 7, 8, 9, 10] hls ?_
      refine z_iast (q := 101) _ (by with_reducible assumption) (rfl) (by omega) (by decide) dL_acts_100 rfl ?_
      refine z_aload_n (q := 102) dL_acts_101 rfl rfl rfl ?_
      refine z_bipush (q := 104) (v := nI 6) dL_acts_102 (by rfl) rfl ?_
      refine z_iload (q := 106) (i := 10) dL_acts_104 rfl rfl ?_
      refine z_imulE (q := 107) dL_acts_106 (pk_mul _ _) rfl ?_
      refine z_iconst (q := 108) (v := nI 1) dL_acts_107 (by rfl) rfl ?_
      refine z_iaddE (q := 109) dL_acts_108 (nI_add _ _) rfl ?_
      refine z_iload (q := 111) (i := 8) dL_acts_109 rfl rfl ?_
      refine z_bipush (q := 113) (v := nI 7) dL_acts_111 (by rfl) rfl ?_
      refine z_idivE (q := 114) dL_acts_113 (by decide) (pk_div (by omega) (by decide) (by decide)) rfl ?_
      refine z_iload (q := 116) (i := 8) dL_acts_114 rfl rfl ?_
      refine z_iconst (q := 117) (v := nI 3) dL_acts_116 (by rfl) rfl ?_
      refine z_iremE (q := 118) dL_acts_117 (by decide) (pk_rem (by omega) (by decide) (by decide)) rfl ?_
      refine z_if_ne (tgt := 127) (q := 121) dL_acts_118 (by decide) rfl (fun h118 => ?_) (fun h118 => ?_)
      · refine z_bipush (q := 129) (v := nI 60) dL_acts_127 (by rfl) rfl ?_
        refine z_iremE (q := 130) dL_acts_129 (by decide) (pk_rem (by omega) (by decide) (by decide)) rfl ?_
        exact next V (v / 7 % 60) hV1 hV2 (by omega) _ rfl
      · refine z_sipush (q := 124) (v := nI 1001) dL_acts_121 (by rfl) rfl ?_
        refine z_goto (q := 129) dL_acts_124 (by decide) ?_
        refine z_iremE (q := 130) dL_acts_129 (by decide) (pk_rem (by omega) (by decide) (by decide)) rfl ?_
        exact next V (v / 7 % 1001) hV1 hV2 (by omega) _ rfl
    refine z_aload_n (q := 69) dL_acts_68 rfl rfl rfl ?_
    refine z_iconst (q := 70) (v := nI 0) dL_acts_69 (by rfl) rfl ?_
    refine z_ialdV (q := 71) _ (by with_reducible assumption) (rfl) (by omega) (by decide) (g0) dL_acts_70 rfl ?_
    refine z_istore (q := 73) dL_acts_71 (by decide) rfl ?_
    refine z_aload_n (q := 74) dL_acts_73 rfl rfl rfl ?_
    refine z_bipush (q := 76) (v := nI 6) dL_acts_74 (by rfl) rfl ?_
    refine z_iload (q := 78) (i := 10) dL_acts_76 rfl rfl ?_
    refine z_imulE (q := 79) dL_acts_78 (pk_mul _ _) rfl ?_
    refine z_bipush (q := 81) (v := nI 10) dL_acts_79 (by rfl) rfl ?_
    refine z_iload (q := 83) (i := 8) dL_acts_81 rfl rfl ?_
    refine z_iload (q := 85) (i := 8) dL_acts_83 rfl rfl ?_
    refine z_iconst (q := 86) (v := nI 2) dL_acts_85 (by rfl) rfl ?_
    refine z_iremE (q := 87) dL_acts_86 (by decide) (pk_rem (by omega) (by decide) (by decide)) rfl ?_
    refine z_if_ne (tgt := 96) (q := 90) dL_acts_87 (by decide) rfl (fun h87 => ?_) (fun h87 => ?_)
    · refine z_bipush (q := 98) (v := nI 90) dL_acts_96 (by rfl) rfl ?_
      refine z_iremE (q := 99) dL_acts_98 (by decide) (pk_rem (by omega) (by decide) (by decide)) rfl ?_
      refine z_iaddE (q := 100) dL_acts_99 (nI_add _ _) rfl ?_
      exact next1 (10 + v % 90) (by omega) (by omega) _ rfl
    · refine z_sipush (q := 93) (v := nI 9991) dL_acts_90 (by rfl) rfl ?_
      refine z_goto (q := 98) dL_acts_93 (by decide) ?_
      refine z_iremE (q := 99) dL_acts_98 (by decide) (pk_rem (by omega) (by decide) (by decide)) rfl ?_
      refine z_iaddE (q := 100) dL_acts_99 (nI_add _ _) rfl ?_
      exact next1 (10 + v % 9991) (by omega) (by omega) _ rfl
  · refine z_aload_n (q := 39) dL_acts_38 rfl rfl rfl ?_
    refine z_bipush (q := 41) (v := nI 9) dL_acts_39 (by rfl) rfl ?_
    refine z_iconst (q := 42) (v := nI 0) dL_acts_41 (by rfl) rfl ?_
    refine z_invV (q := 45) (call_none (c_X7_room G x pc 0 g (fun _ => 0) p hS (nI 9) (nI 0)) (if_pos (Or.inl (by decide)))) (by with_reducible assumption) rfl gL_acts_X7_room rfl hy_X7_room rfl rfl rfl rfl (Nat.le_of_ble_eq_true rfl) ⟨Nat.zero_le _, Nat.zero_le _⟩ dL_acts_42 rfl (z_rvR fun I2 R2 hZ => ?_)
    refine z_iconst (q := 46) (v := (-1)) dL_acts_45 (by rfl) rfl ?_
    obtain ⟨hSa, hfa⟩ := hZ
    refine z_icmp_ne (tgt := 66) (q := 49) dL_acts_46 (by decide) rfl (fun hc => False.elim (hc rfl)) (fun _ => ?_)
    refine z_aload_n (q := 50) dL_acts_49 rfl rfl rfl ?_
    refine z_bipush (q := 52) (v := nI 10) dL_acts_50 (by rfl) rfl ?_
    refine z_sipush (q := 55) (v := nI 1001) dL_acts_52 (by rfl) rfl ?_
    refine z_invV (q := 58) (call_none (c_X7_room G x pc 0 g (fun _ => 0) p hSa (nI 10) (nI 1001)) ((if_neg (by decide)).trans (if_pos (Or.inr (by decide))))) (by with_reducible assumption) rfl gL_acts_X7_room rfl hy_X7_room rfl rfl rfl rfl (Nat.le_of_ble_eq_true rfl) ⟨Nat.zero_le _, Nat.zero_le _⟩ dL_acts_55 rfl (z_rvR fun I3 R3 hZ => ?_)
    refine z_iconst (q := 59) (v := (-1)) dL_acts_58 (by rfl) rfl ?_
    obtain ⟨hSb, hfb⟩ := hZ
    refine z_icmp_ne (tgt := 66) (q := 62) dL_acts_59 (by decide) rfl (fun hc => False.elim (hc rfl)) (fun _ => ?_)
    refine z_iconst (q := 63) (v := nI 1) dL_acts_62 (by rfl) rfl ?_
    refine z_goto (q := 67) dL_acts_63 (by decide) ?_
    exact z_zret rfl (by rfl) dL_acts_67 (by decide) (by decide) (⟨by rw [zI1], Nat.le_refl _, rfl, g, p, pc, nr, nd, np, st, W, hSb, LP_x hb (LP_x hb hL hfa) hfb, PH_mono hH hB2, hS2⟩)

