/-! THE REFERENCE, the shortest way -/
def far0 (x : Nat) : Nat → Int32 := fun k => if k = x then nI 0 else nI 99
def farA (f : Nat → Int32) (a b : Nat) : Int32 := if ¬ b = 8 ∧ f b + nI 1 < f a then f b + nI 1 else f a
def farB (f : Nat → Int32) (a b : Nat) : Int32 := if f a + nI 1 < f b then f a + nI 1 else f b
def farU (f : Nat → Int32) (a b : Nat) : Nat → Int32 := upd (upd f a (farA f a b)) b (farB (upd f a (farA f a b)) a b)
def farS (g f : Nat → Int32) (d : Nat) : Nat → Int32 := if g (57 + 10 * d + 5) ≤ 0 then f else farU f (gN g (57 + 10 * d + 0)) (gN g (57 + 10 * d + 1))
def farN (g : Nat → Int32) (x nd : Nat) : Nat → (Nat → Int32)
  | 0 => far0 x
  | k + 1 => farS g (farN g x nd k) (k % nd)
def wayQ (g : Nat → Int32) (x y : Nat) : Int32 := if farN g x (gN g 1) (9 * gN g 1) y = nI 99 then -4 else farN g x (gN g 1) (9 * gN g 1) y
def sp_way (g : Nat → Int32) (x y : Int32) : Int32 := if x < 0 ∨ g 0 ≤ x then -1 else if (y < 0 ∨ g 0 ≤ y) ∧ ¬ y = nI 8 then -1 else wayQ g x.toNatClampNeg y.toNatClampNeg
abbrev z_frF (m : Nat) (I I' : zII) : Prop := ∀ q, q ≠ m + 6 → I' q = I q
set_option maxRecDepth 100000 in
set_option maxHeartbeats 4000000 in
theorem c_X8_way (G : zG) {n : Nat} {T : zTT} {I : zII} {R : zRR} (m nr nd np st : Nat) (x y : Int32) (hM : z_Mod T R m) (hI : INV nr nd np st (I (m + 1))) : Ct G yX8_way wsX8_way (1, 0, 0) [.ref m, .int x, .int y] n T I R (z_rel (some (.int (sp_way (I (m + 1)) x y))) n T (fun I' R' => R' = R ∧ z_frF m I I')) := by
  refine Ct.ofX (M := muX8_way) (ls := [(0, .ref m), (1, .int x), (2, .int y)]) (by decide +kernel) rfl (by decide) rfl rfl (Nat.le_of_ble_eq_true rfl) ?_
  have hTm := hM.1
  have hnr := hI.1.2
  have hnd := hI.2.1.2
  have h1 := hI.2.1.1
  obtain ⟨-, ⟨hTs, hRs⟩, -, -, -, -, ⟨hTf, hRf⟩, -⟩ := id hM
  have hgd : gN (I (m + 1)) 1 = nd := gN_of hI.2.1.1 (by omega)
  have bad : sp_way (I (m + 1)) x y = -1 → z_X G muX8_way (1, 0, 0) (z_rel (some (.int (sp_way (I (m + 1)) x y))) n T (fun I' R' => R' = R ∧ z_frF m I I')) n T I R 0 0 22 [(0, .ref m), (1, .int x), (2, .int y)] [] := by
    intro hb
    rw [hb]
    refine z_iconst (q := 23) (v := (-1)) dX8_way_22 (by rfl) rfl ?_
    exact z_iret rfl dX8_way_23 (Nat.zero_le _) (Nat.zero_le _) ⟨rfl, rfl, rfl, rfl, fun _ _ => rfl⟩
  refine z_aload_n (q := 1) dX8_way_0 rfl rfl rfl ?_
  refine z_iload_n (q := 2) dX8_way_1 rfl rfl rfl ?_
  refine z_invV (q := 5) (c_X8_isRoom G m x hM) (by with_reducible assumption) rfl gX8_way_X8_isRoom rfl hy_X8_isRoom rfl rfl rfl rfl (Nat.le_of_ble_eq_true rfl) ⟨Nat.zero_le _, Nat.zero_le _⟩ dX8_way_2 rfl (z_rv ?_)
  by_cases hv : x < 0 ∨ I (m + 1) 0 ≤ x
  · rw [if_pos hv]
    refine z_if_eq (tgt := 22) (q := 8) dX8_way_5 (by decide) rfl (fun _ => ?_) (fun hc => False.elim (hc rfl))
    exact bad (by rw [sp_way, if_pos hv])
  rw [if_neg hv]
  refine z_if_eq (tgt := 22) (q := 8) dX8_way_5 (by decide) rfl (fun hc => False.elim (absurd hc (by decide))) (fun _ => ?_)
  have next : (¬ ((y < 0 ∨ I (m + 1) 0 ≤ y) ∧ ¬ y = nI 8)) → z_X G muX8_way (1, 0, 0) (z_rel (some (.int (sp_way (I (m + 1)) x y))) n T (fun I' R' => R' = R ∧ z_frF m I I')) n T I R 0 0 24 [(0, .ref m), (1, .int x), (2, .int y)] [] := by
    intro hw
    obtain ⟨p, hp, rfl⟩ := z_ix hI.1.1 (by omega) hv
    have hy : ∃ r, r ≤ 8 ∧ y = nI r := by
      by_cases h8 : y = nI 8
      · exact ⟨8, Nat.le_refl _, h8⟩
      · obtain ⟨r, hr, e⟩ := z_ix hI.1.1 (by omega) (fun q => hw ⟨q, h8⟩)
        exact ⟨r, by omega, e⟩
    obtain ⟨q, hq, rfl⟩ := hy
    have e : sp_way (I (m + 1)) (nI p) (nI q) = wayQ (I (m + 1)) p q := by rw [sp_way, if_neg hv, if_neg hw, nI_clamp (by omega), nI_clamp (by omega)]
    rw [e]
    have loop2 : ∀ k, k ≤ 9 * nd → ∀ I4, I4 (m + 6) = farN (I (m + 1)) p nd k → z_frF m I I4 → ∀ ls : List (Nat × Value), lv_pick ls [0, 1, 2, 3] = [(0, .ref m), (1, .int (nI p)), (2, .int (nI q)), (3, .int (nI k))] → z_X G muX8_way (1, 0, 0) (z_rel (some (.int (wayQ (I (m + 1)) p q))) n T (fun I' R' => R' = R ∧ z_frF m I I')) n T I4 R 0 0 57 ls [] := by
      refine z_up (N := 9 * nd) _ ?_ ?_
      · intro I4 e1 e2 ls hls
        have h1' : I4 (m + 1) 1 = nI nd := by rw [e2 _ (by omega)]; exact h1
        refine z_pick [0, 1, 2, 3] hls ?_
        refine z_iload_n (q := 58) dX8_way_57 rfl rfl rfl ?_
        refine z_bipush (q := 60) (v := nI 9) dX8_way_58 (by rfl) rfl ?_
        refine z_aload_n (q := 61) dX8_way_60 rfl rfl rfl ?_
        refine z_getR (q := 64) 8 0 2 11 rfl (by decide) rfl rfl rfl (by with_reducible assumption) (by with_reducible assumption) dX8_way_61 rfl ?_
        refine z_iconst (q := 65) (v := nI 1) dX8_way_64 (by rfl) rfl ?_
        refine z_ialdV (q := 66) _ (by with_reducible assumption) (rfl) (by omega) (by decide) (h1') dX8_way_65 rfl ?_
        refine z_imulE (q := 67) dX8_way_66 (pk_mul _ _) rfl ?_
        refine z_icmpn_ge (rfl) (rfl) (by omega) (by omega) (tgt := 220) (q := 70) dX8_way_67 (by decide) rfl (fun _ => ?_) (fun hc => absurd hc (by omega))
        refine z_aload_n (q := 221) dX8_way_220 rfl rfl rfl ?_
        refine z_getR (q := 224) 8 7 1 18 rfl (by decide) rfl rfl rfl (by with_reducible assumption) (by with_reducible assumption) dX8_way_221 rfl ?_
        refine z_iload_n (q := 225) dX8_way_224 rfl rfl rfl ?_
        refine z_iald (q := 226) _ (by with_reducible assumption) (rfl) (by omega) (by decide) dX8_way_225 rfl ?_
        refine z_bipush (q := 228) (v := nI 99) dX8_way_226 (by rfl) rfl ?_
        refine z_icmp_ne (tgt := 236) (q := 231) dX8_way_228 (by decide) rfl (fun hc => ?_) (fun hc => ?_)
        · refine z_aload_n (q := 237) dX8_way_236 rfl rfl rfl ?_
          refine z_getR (q := 240) 8 7 1 18 rfl (by decide) rfl rfl rfl (by with_reducible assumption) (by with_reducible assumption) dX8_way_237 rfl ?_
          refine z_iload_n (q := 241) dX8_way_240 rfl rfl rfl ?_
          refine z_iald (q := 242) _ (by with_reducible assumption) (rfl) (by omega) (by decide) dX8_way_241 rfl ?_
          exact z_iret rfl dX8_way_242 (Nat.zero_le _) (Nat.zero_le _) ⟨by rw [wayQ, hgd, ← e1, if_neg hc], rfl, rfl, rfl, e2⟩
        · refine z_bipush (q := 233) (v := (-4)) dX8_way_231 (by rfl) rfl ?_
          refine z_goto (q := 242) dX8_way_233 (by decide) ?_
          exact z_iret rfl dX8_way_242 (Nat.zero_le _) (Nat.zero_le _) ⟨by rw [wayQ, hgd, ← e1, if_pos hc], rfl, rfl, rfl, e2⟩
      · intro k hk ih I4 e1 e2 ls hls
        have h1' : I4 (m + 1) 1 = nI nd := by rw [e2 _ (by omega)]; exact h1
        have hne : ¬ nI nd = 0 := nI_ne0 (by omega) (by omega)
        have hdm : k % nd < nd := Nat.mod_lt _ (by omega)
        obtain ⟨⟨a, ha, ha8, -⟩, ⟨b, hb, hb8, -⟩⟩ := INV_a hI hdm
        refine z_pick [0, 1, 2, 3] hls ?_
        refine z_iload_n (q := 58) dX8_way_57 rfl rfl rfl ?_
        refine z_bipush (q := 60) (v := nI 9) dX8_way_58 (by rfl) rfl ?_
        refine z_aload_n (q := 61) dX8_way_60 rfl rfl rfl ?_
        refine z_getR (q := 64) 8 0 2 11 rfl (by decide) rfl rfl rfl (by with_reducible assumption) (by with_reducible assumption) dX8_way_61 rfl ?_
        refine z_iconst (q := 65) (v := nI 1) dX8_way_64 (by rfl) rfl ?_
        refine z_ialdV (q := 66) _ (by with_reducible assumption) (rfl) (by omega) (by decide) (h1') dX8_way_65 rfl ?_
        refine z_imulE (q := 67) dX8_way_66 (pk_mul _ _) rfl ?_
        refine z_icmpn_ge (rfl) (rfl) (by omega) (by omega) (tgt := 220) (q := 70) dX8_way_67 (by decide) rfl (fun hc => absurd hc (by omega)) (fun _ => ?_)
        refine z_iload_n (q := 71) dX8_way_70 rfl rfl rfl ?_
        refine z_aload_n (q := 72) dX8_way_71 rfl rfl rfl ?_
        refine z_getR (q := 75) 8 0 2 11 rfl (by decide) rfl rfl rfl (by with_reducible assumption) (by with_reducible assumption) dX8_way_72 rfl ?_
        refine z_iconst (q := 76) (v := nI 1) dX8_way_75 (by rfl) rfl ?_
        refine z_ialdV (q := 77) _ (by with_reducible assumption) (rfl) (by omega) (by decide) (h1') dX8_way_76 rfl ?_
        refine z_irem (q := 78) dX8_way_77 (hne) rfl ?_
        rw [pk_rem (by omega) (by omega) (by omega)]
        generalize hd : k % nd = d at *
        refine z_istore (q := 80) dX8_way_78 (by decide) rfl ?_
        refine z_aload_n (q := 81) dX8_way_80 rfl rfl rfl ?_
        refine z_getR (q := 84) 8 0 2 11 rfl (by decide) rfl rfl rfl (by with_reducible assumption) (by with_reducible assumption) dX8_way_81 rfl ?_
        refine z_iload (q := 86) (i := 4) dX8_way_84 rfl rfl ?_
        refine z_iconst (q := 87) (v := nI 0) dX8_way_86 (by rfl) rfl ?_
        refine z_invS (q := 90) (c_X8_ofDoor G (m + 1) d 0 hTs (by omega)) gX8_way_X8_ofDoor rfl hy_X8_ofDoor rfl rfl rfl rfl (Nat.le_of_ble_eq_true rfl) ⟨Nat.zero_le _, Nat.zero_le _⟩ dX8_way_87 rfl (z_rv ?_)
        rw [e2 (m + 1) (by omega), ha]
        refine z_istore (q := 92) dX8_way_90 (by decide) rfl ?_
        refine z_aload_n (q := 93) dX8_way_92 rfl rfl rfl ?_
        refine z_getR (q := 96) 8 0 2 11 rfl (by decide) rfl rfl rfl (by with_reducible assumption) (by with_reducible assumption) dX8_way_93 rfl ?_
        refine z_iload (q := 98) (i := 4) dX8_way_96 rfl rfl ?_
        refine z_iconst (q := 99) (v := nI 1) dX8_way_98 (by rfl) rfl ?_
        refine z_invS (q := 102) (c_X8_ofDoor G (m + 1) d 1 hTs (by omega)) gX8_way_X8_ofDoor rfl hy_X8_ofDoor rfl rfl rfl rfl (Nat.le_of_ble_eq_true rfl) ⟨Nat.zero_le _, Nat.zero_le _⟩ dX8_way_99 rfl (z_rv ?_)
        rw [e2 (m + 1) (by omega), hb]
        refine z_istore (q := 104) dX8_way_102 (by decide) rfl ?_
        refine z_aload_n (q := 105) dX8_way_104 rfl rfl rfl ?_
        refine z_getR (q := 108) 8 0 2 11 rfl (by decide) rfl rfl rfl (by with_reducible assumption) (by with_reducible assumption) dX8_way_105 rfl ?_
        refine z_iload (q := 110) (i := 4) dX8_way_108 rfl rfl ?_
        refine z_iconst (q := 111) (v := nI 5) dX8_way_110 (by rfl) rfl ?_
        refine z_invS (q := 114) (c_X8_ofDoor G (m + 1) d 5 hTs (by omega)) gX8_way_X8_ofDoor rfl hy_X8_ofDoor rfl rfl rfl rfl (Nat.le_of_ble_eq_true rfl) ⟨Nat.zero_le _, Nat.zero_le _⟩ dX8_way_111 rfl (z_rv ?_)
        rw [e2 (m + 1) (by omega)]
        have hE : farN (I (m + 1)) p nd (k + 1) = farS (I (m + 1)) (I4 (m + 6)) d := by rw [farN, hd, e1]
        refine z_if_le (tgt := 214) (q := 117) dX8_way_114 (by decide) rfl (fun h114 => ?_) (fun h114 => ?_)
        · refine z_iinc (q := 217) dX8_way_214 rfl (nI_add _ 1) (by decide) rfl ?_
          refine z_goto (q := 57) dX8_way_217 (by decide) ?_
          refine ih I4 ?_ e2 _ rfl
          rw [hE, farS, if_pos h114]
        · rw [farS, if_neg h114, gN_of ha (by omega), gN_of hb (by omega)] at hE
          have j168 : ∀ v, v = farA (I4 (m + 6)) a b → z_X G muX8_way (1, 0, 0) (z_rel (some (.int (wayQ (I (m + 1)) p q))) n T (fun I' R' => R' = R ∧ z_frF m I I')) n T I4 R 0 0 168 [(0, .ref m), (1, .int (nI p)), (2, .int (nI q)), (3, .int (nI k)), (4, .int (nI d)), (5, .int (nI a)), (6, .int (nI b))] [.int v, .int (nI a), .ref (m + 6)] := by
            intro v hv2
            have hU : zw I4 (m + 6) a v (m + 6) = upd (I4 (m + 6)) a (farA (I4 (m + 6)) a b) := by rw [zw_upd, hv2]
            have j213 : ∀ u, u = farB (upd (I4 (m + 6)) a (farA (I4 (m + 6)) a b)) a b → z_X G muX8_way (1, 0, 0) (z_rel (some (.int (wayQ (I (m + 1)) p q))) n T (fun I' R' => R' = R ∧ z_frF m I I')) n T (zw I4 (m + 6) a v) R 0 0 213 [(0, .ref m), (1, .int (nI p)), (2, .int (nI q)), (3, .int (nI k)), (4, .int (nI d)), (5, .int (nI a)), (6, .int (nI b))] [.int u, .int (nI b), .ref (m + 6)] := by
              intro u hu
              refine z_iast (q := 214) _ (by with_reducible assumption) (rfl) (by omega) (by decide) dX8_way_213 rfl ?_
              refine z_iinc (q := 217) dX8_way_214 rfl (nI_add _ 1) (by decide) rfl ?_
              refine z_goto (q := 57) dX8_way_217 (by decide) ?_
              refine ih _ ?_ (fun r hr => by rw [zw_row _ _ hr, zw_row _ _ hr]; exact e2 r hr) _ rfl
              rw [zw_upd, hU, hE, hu]
              rfl
            refine z_iast (q := 169) _ (by with_reducible assumption) (rfl) (by omega) (by decide) dX8_way_168 rfl ?_
            refine z_aload_n (q := 170) dX8_way_169 rfl rfl rfl ?_
            refine z_getR (q := 173) 8 7 1 18 rfl (by decide) rfl rfl rfl (by with_reducible assumption) (by with_reducible assumption) dX8_way_170 rfl ?_
            refine z_iload (q := 175) (i := 6) dX8_way_173 rfl rfl ?_
            refine z_aload_n (q := 176) dX8_way_175 rfl rfl rfl ?_
            refine z_getR (q := 179) 8 7 1 18 rfl (by decide) rfl rfl rfl (by with_reducible assumption) (by with_reducible assumption) dX8_way_176 rfl ?_
            refine z_iload (q := 181) (i := 5) dX8_way_179 rfl rfl ?_
            refine z_iald (q := 182) _ (by with_reducible assumption) (rfl) (by omega) (by decide) dX8_way_181 rfl ?_
            refine z_iconst (q := 183) (v := nI 1) dX8_way_182 (by rfl) rfl ?_
            refine z_iadd (q := 184) dX8_way_183 rfl ?_
            refine z_aload_n (q := 185) dX8_way_184 rfl rfl rfl ?_
            refine z_getR (q := 188) 8 7 1 18 rfl (by decide) rfl rfl rfl (by with_reducible assumption) (by with_reducible assumption) dX8_way_185 rfl ?_
            refine z_iload (q := 190) (i := 6) dX8_way_188 rfl rfl ?_
            refine z_iald (q := 191) _ (by with_reducible assumption) (rfl) (by omega) (by decide) dX8_way_190 rfl ?_
            rw [hU]
            refine z_icmp_ge (tgt := 206) (q := 194) dX8_way_191 (by decide) rfl (fun h191 => ?_) (fun h191 => ?_)
            · refine z_aload_n (q := 207) dX8_way_206 rfl rfl rfl ?_
              refine z_getR (q := 210) 8 7 1 18 rfl (by decide) rfl rfl rfl (by with_reducible assumption) (by with_reducible assumption) dX8_way_207 rfl ?_
              refine z_iload (q := 212) (i := 6) dX8_way_210 rfl rfl ?_
              refine z_iald (q := 213) _ (by with_reducible assumption) (rfl) (by omega) (by decide) dX8_way_212 rfl ?_
              rw [hU]
              exact j213 _ (by rw [farB, if_neg (Int32.not_lt.mpr h191)])
            · refine z_aload_n (q := 195) dX8_way_194 rfl rfl rfl ?_
              refine z_getR (q := 198) 8 7 1 18 rfl (by decide) rfl rfl rfl (by with_reducible assumption) (by with_reducible assumption) dX8_way_195 rfl ?_
              refine z_iload (q := 200) (i := 5) dX8_way_198 rfl rfl ?_
              refine z_iald (q := 201) _ (by with_reducible assumption) (rfl) (by omega) (by decide) dX8_way_200 rfl ?_
              refine z_iconst (q := 202) (v := nI 1) dX8_way_201 (by rfl) rfl ?_
              refine z_iadd (q := 203) dX8_way_202 rfl ?_
              refine z_goto (q := 213) dX8_way_203 (by decide) ?_
              rw [hU]
              exact j213 _ (by rw [farB, if_pos (Int32.not_le.mp h191)])
          refine z_aload_n (q := 118) dX8_way_117 rfl rfl rfl ?_
          refine z_getR (q := 121) 8 7 1 18 rfl (by decide) rfl rfl rfl (by with_reducible assumption) (by with_reducible assumption) dX8_way_118 rfl ?_
          refine z_iload (q := 123) (i := 5) dX8_way_121 rfl rfl ?_
          refine z_iload (q := 125) (i := 6) dX8_way_123 rfl rfl ?_
          refine z_bipush (q := 127) (v := nI 8) dX8_way_125 (by rfl) rfl ?_
          refine z_icmpn_eq (rfl) (rfl) (by omega) (by omega) (tgt := 161) (q := 130) dX8_way_127 (by decide) rfl (fun h127 => ?_) (fun h127 => ?_)
          · refine z_aload_n (q := 162) dX8_way_161 rfl rfl rfl ?_
            refine z_getR (q := 165) 8 7 1 18 rfl (by decide) rfl rfl rfl (by with_reducible assumption) (by with_reducible assumption) dX8_way_162 rfl ?_
            refine z_iload (q := 167) (i := 5) dX8_way_165 rfl rfl ?_
            refine z_iald (q := 168) _ (by with_reducible assumption) (rfl) (by omega) (by decide) dX8_way_167 rfl ?_
            exact j168 _ (by rw [farA, if_neg (fun z => z.1 h127)])
          · refine z_aload_n (q := 131) dX8_way_130 rfl rfl rfl ?_
            refine z_getR (q := 134) 8 7 1 18 rfl (by decide) rfl rfl rfl (by with_reducible assumption) (by with_reducible assumption) dX8_way_131 rfl ?_
            refine z_iload (q := 136) (i := 6) dX8_way_134 rfl rfl ?_
            refine z_iald (q := 137) _ (by with_reducible assumption) (rfl) (by omega) (by decide) dX8_way_136 rfl ?_
            refine z_iconst (q := 138) (v := nI 1) dX8_way_137 (by rfl) rfl ?_
            refine z_iadd (q := 139) dX8_way_138 rfl ?_
            refine z_aload_n (q := 140) dX8_way_139 rfl rfl rfl ?_
            refine z_getR (q := 143) 8 7 1 18 rfl (by decide) rfl rfl rfl (by with_reducible assumption) (by with_reducible assumption) dX8_way_140 rfl ?_
            refine z_iload (q := 145) (i := 5) dX8_way_143 rfl rfl ?_
            refine z_iald (q := 146) _ (by with_reducible assumption) (rfl) (by omega) (by decide) dX8_way_145 rfl ?_
            refine z_icmp_ge (tgt := 161) (q := 149) dX8_way_146 (by decide) rfl (fun h146 => ?_) (fun h146 => ?_)
            · refine z_aload_n (q := 162) dX8_way_161 rfl rfl rfl ?_
              refine z_getR (q := 165) 8 7 1 18 rfl (by decide) rfl rfl rfl (by with_reducible assumption) (by with_reducible assumption) dX8_way_162 rfl ?_
              refine z_iload (q := 167) (i := 5) dX8_way_165 rfl rfl ?_
              refine z_iald (q := 168) _ (by with_reducible assumption) (rfl) (by omega) (by decide) dX8_way_167 rfl ?_
              exact j168 _ (by rw [farA, if_neg (fun z => absurd z.2 (Int32.not_lt.mpr h146))])
            · refine z_aload_n (q := 150) dX8_way_149 rfl rfl rfl ?_
              refine z_getR (q := 153) 8 7 1 18 rfl (by decide) rfl rfl rfl (by with_reducible assumption) (by with_reducible assumption) dX8_way_150 rfl ?_
              refine z_iload (q := 155) (i := 6) dX8_way_153 rfl rfl ?_
              refine z_iald (q := 156) _ (by with_reducible assumption) (rfl) (by omega) (by decide) dX8_way_155 rfl ?_
              refine z_iconst (q := 157) (v := nI 1) dX8_way_156 (by rfl) rfl ?_
              refine z_iadd (q := 158) dX8_way_157 rfl ?_
              refine z_goto (q := 168) dX8_way_158 (by decide) ?_
              exact j168 _ (by rw [farA, if_pos ⟨h127, Int32.not_le.mp h146⟩])
    refine z_iconst (q := 25) (v := nI 0) dX8_way_24 (by rfl) rfl ?_
    refine z_istore_n (q := 26) dX8_way_25 rfl (by decide) rfl ?_
    have loop : ∀ i, i ≤ 9 → ∀ I4, (∀ k, k < i → far0 p k = I4 (m + 6) k) → z_frF m I I4 → z_X G muX8_way (1, 0, 0) (z_rel (some (.int (wayQ (I (m + 1)) p q))) n T (fun I' R' => R' = R ∧ z_frF m I I')) n T I4 R 0 0 26 [(0, .ref m), (1, .int (nI p)), (2, .int (nI q)), (3, .int (nI i))] [] := by
      refine z_up (N := 9) _ ?_ ?_
      · intro I4 e1 e2
        refine z_iload_n (q := 27) dX8_way_26 rfl rfl rfl ?_
        refine z_bipush (q := 29) (v := nI 9) dX8_way_27 (by rfl) rfl ?_
        refine z_icmpn_ge (rfl) (rfl) (by omega) (by omega) (tgt := 55) (q := 32) dX8_way_29 (by decide) rfl (fun _ => ?_) (fun hc => absurd hc (by omega))
        refine z_ext_row (r := m + 6) (far0 p) hTf e1 ?_
        refine z_iconst (q := 56) (v := nI 0) dX8_way_55 (by rfl) rfl ?_
        refine z_istore_n (q := 57) dX8_way_56 rfl (by decide) rfl ?_
        exact loop2 0 (Nat.zero_le _) _ (zN_s _ _ _) (fun r hr => by rw [zN_n _ _ hr]; exact e2 r hr) _ rfl
      · intro i hi ih I4 e1 e2
        have j48 : ∀ v, v = far0 p i → z_X G muX8_way (1, 0, 0) (z_rel (some (.int (wayQ (I (m + 1)) p q))) n T (fun I' R' => R' = R ∧ z_frF m I I')) n T I4 R 0 0 48 [(0, .ref m), (1, .int (nI p)), (2, .int (nI q)), (3, .int (nI i))] [.int v, .int (nI i), .ref (m + 6)] := by
          intro v hv2
          refine z_iast (q := 49) _ (by with_reducible assumption) (rfl) (by omega) (by decide) dX8_way_48 rfl ?_
          refine z_iinc (q := 52) dX8_way_49 rfl (nI_add _ 1) (by decide) rfl ?_
          refine z_goto (q := 26) dX8_way_52 (by decide) ?_
          refine ih _ (fun k hk => ?_) (fun r hr => by rw [zw_row _ _ hr]; exact e2 r hr)
          by_cases hki : k = i
          · rw [hki, zw_s, hv2]
          · rw [zw_k _ _ hki]
            exact e1 k (by omega)
        refine z_iload_n (q := 27) dX8_way_26 rfl rfl rfl ?_
        refine z_bipush (q := 29) (v := nI 9) dX8_way_27 (by rfl) rfl ?_
        refine z_icmpn_ge (rfl) (rfl) (by omega) (by omega) (tgt := 55) (q := 32) dX8_way_29 (by decide) rfl (fun hc => absurd hc (by omega)) (fun _ => ?_)
        refine z_aload_n (q := 33) dX8_way_32 rfl rfl rfl ?_
        refine z_getR (q := 36) 8 7 1 18 rfl (by decide) rfl rfl rfl (by with_reducible assumption) (by with_reducible assumption) dX8_way_33 rfl ?_
        refine z_iload_n (q := 37) dX8_way_36 rfl rfl rfl ?_
        refine z_iload_n (q := 38) dX8_way_37 rfl rfl rfl ?_
        refine z_iload_n (q := 39) dX8_way_38 rfl rfl rfl ?_
        refine z_icmpn_ne (rfl) (rfl) (by omega) (by omega) (tgt := 46) (q := 42) dX8_way_39 (by decide) rfl (fun h39 => ?_) (fun h39 => ?_)
        · refine z_bipush (q := 48) (v := nI 99) dX8_way_46 (by rfl) rfl ?_
          exact j48 _ (by rw [far0, if_neg h39])
        · refine z_iconst (q := 43) (v := nI 0) dX8_way_42 (by rfl) rfl ?_
          refine z_goto (q := 48) dX8_way_43 (by decide) ?_
          exact j48 _ (by rw [far0, if_pos h39])
    exact loop 0 (Nat.zero_le _) I (fun k hk => absurd hk (Nat.not_lt_zero k)) (fun _ _ => rfl)
  refine z_aload_n (q := 9) dX8_way_8 rfl rfl rfl ?_
  refine z_iload_n (q := 10) dX8_way_9 rfl rfl rfl ?_
  refine z_invV (q := 13) (c_X8_isRoom G m y hM) (by with_reducible assumption) rfl gX8_way_X8_isRoom rfl hy_X8_isRoom rfl rfl rfl rfl (Nat.le_of_ble_eq_true rfl) ⟨Nat.zero_le _, Nat.zero_le _⟩ dX8_way_10 rfl (z_rv ?_)
  by_cases hw : y < 0 ∨ I (m + 1) 0 ≤ y
  · rw [if_pos hw]
    refine z_if_ne (tgt := 24) (q := 16) dX8_way_13 (by decide) rfl (fun hc => False.elim (hc rfl)) (fun _ => ?_)
    refine z_iload_n (q := 17) dX8_way_16 rfl rfl rfl ?_
    refine z_bipush (q := 19) (v := nI 8) dX8_way_17 (by rfl) rfl ?_
    refine z_icmp_eq (tgt := 24) (q := 22) dX8_way_19 (by decide) rfl (fun h8 => ?_) (fun h8 => ?_)
    · exact next (fun q => q.2 h8)
    · exact bad (by rw [sp_way, if_neg hv, if_pos ⟨hw, h8⟩])
  · rw [if_neg hw]
    refine z_if_ne (tgt := 24) (q := 16) dX8_way_13 (by decide) rfl (fun _ => ?_) (fun hc => False.elim (absurd hc (by decide)))
    exact next (fun q => hw q.1)

