/-! THE REFERENCE, what is told: rooms, doors, entries of the plan -/
def zfG (g : Nat → Int32) (a i : Nat) : Nat → Int32 := fun k => if a ≤ k ∧ k < a + i then 0 else g k
theorem zfG_0 (g : Nat → Int32) (a : Nat) : zfG g a 0 = g := by
  funext k
  unfold zfG
  rw [if_neg (by omega)]
theorem zfG_s (g : Nat → Int32) (a i : Nat) : upd (zfG g a i) (a + i) 0 = zfG g a (i + 1) := by
  funext k
  by_cases h : k = a + i
  · rw [h, upd_s, zfG, if_pos (by omega)]
  · rw [upd_n _ _ h]
    unfold zfG
    by_cases h2 : a ≤ k ∧ k < a + i
    · rw [if_pos h2, if_pos (by omega)]
    · rw [if_neg h2, if_neg (by omega)]
def roomA (g : Nat → Int32) (r : Nat) (v a : Int32) : Nat → Int32 := upd (upd (upd (upd (upd (upd g (9 + 6 * r + 0) v) (9 + 6 * r + 1) a) (9 + 6 * r + 2) 0) (9 + 6 * r + 3) 0) (9 + 6 * r + 4) 0) (9 + 6 * r + 5) (g 3)
def roomG (g : Nat → Int32) (r : Nat) (v a : Int32) : Nat → Int32 := upd (zfG (roomA g r v a) (401 + 32 * r) 32) 0 (nI (r + 1))
def sp_room (g : Nat → Int32) (v a : Int32) : Int32 × Option (Nat → Int32) := if v < nI 10 ∨ nI 10000 < v then (-1, none) else if a < nI 0 ∨ nI 1000 < a then (-1, none) else if gN g 0 = 8 then (-3, none) else (g 0, some (roomG g (gN g 0) v a))
set_option maxRecDepth 100000 in
set_option maxHeartbeats 4000000 in
theorem c_X8_room (G : zG) {n : Nat} {T : zTT} {I : zII} {R : zRR} (m nr nd np st pc : Nat) (v a : Int32) (hM : z_Mod T R m) (hI : INV nr nd np st (I (m + 1))) (hpc : I m 3 = nI pc) (h4 : pc ≤ 4) : Ct G yX8_room wsX8_room (1, 0, 0) [.ref m, .int v, .int a] n T I R (z_rel (some (.int (sp_room (I (m + 1)) v a).1)) n T (fun I' R' => R' = R ∧ z_upto m pc I I' (sp_room (I (m + 1)) v a).2)) := by
  refine Ct.ofX (M := muX8_room) (ls := [(0, .ref m), (1, .int v), (2, .int a)]) (by decide +kernel) rfl (by decide) rfl rfl (Nat.le_of_ble_eq_true rfl) ?_
  have hTm := hM.1
  have hnr := hI.1.2
  have h0 := hI.1.1
  obtain ⟨-, ⟨hTs, hRs⟩, -⟩ := id hM
  have hgr : gN (I (m + 1)) 0 = nr := gN_of hI.1.1 (by omega)
  have bad : sp_room (I (m + 1)) v a = (-1, none) → z_X G muX8_room (1, 0, 0) (z_rel (some (.int (sp_room (I (m + 1)) v a).1)) n T (fun I' R' => R' = R ∧ z_upto m pc I I' (sp_room (I (m + 1)) v a).2)) n T I R 0 0 23 [(0, .ref m), (1, .int v), (2, .int a)] [] := by
    intro hb
    rw [hb]
    refine z_iconst (q := 24) (v := (-1)) dX8_room_23 (by rfl) rfl ?_
    exact z_iret rfl dX8_room_24 (Nat.zero_le _) (Nat.zero_le _) ⟨rfl, rfl, rfl, rfl, ⟨rfl, rfl, fun _ _ _ _ => rfl⟩⟩
  refine z_iload_n (q := 1) dX8_room_0 rfl rfl rfl ?_
  refine z_bipush (q := 3) (v := nI 10) dX8_room_1 (by rfl) rfl ?_
  refine z_sipush (q := 6) (v := nI 10000) dX8_room_3 (by rfl) rfl ?_
  refine z_invS (q := 9) (c_X8_in G v (nI 10) (nI 10000)) gX8_room_X8_in rfl hy_X8_in rfl rfl rfl rfl (Nat.le_of_ble_eq_true rfl) ⟨Nat.zero_le _, Nat.zero_le _⟩ dX8_room_6 rfl (z_rv ?_)
  by_cases hv : v < nI 10 ∨ nI 10000 < v
  · rw [if_pos hv]
    refine z_if_eq (tgt := 23) (q := 12) dX8_room_9 (by decide) rfl (fun _ => ?_) (fun hc => False.elim (hc rfl))
    exact bad (by rw [sp_room, if_pos hv])
  rw [if_neg hv]
  refine z_if_eq (tgt := 23) (q := 12) dX8_room_9 (by decide) rfl (fun hc => False.elim (absurd hc (by decide))) (fun _ => ?_)
  refine z_iload_n (q := 13) dX8_room_12 rfl rfl rfl ?_
  refine z_iconst (q := 14) (v := nI 0) dX8_room_13 (by rfl) rfl ?_
  refine z_sipush (q := 17) (v := nI 1000) dX8_room_14 (by rfl) rfl ?_
  refine z_invS (q := 20) (c_X8_in G a (nI 0) (nI 1000)) gX8_room_X8_in rfl hy_X8_in rfl rfl rfl rfl (Nat.le_of_ble_eq_true rfl) ⟨Nat.zero_le _, Nat.zero_le _⟩ dX8_room_17 rfl (z_rv ?_)
  by_cases hz : a < nI 0 ∨ nI 1000 < a
  · rw [if_pos hz]
    refine z_if_ne (tgt := 25) (q := 23) dX8_room_20 (by decide) rfl (fun hc => False.elim (hc rfl)) (fun _ => ?_)
    exact bad (by rw [sp_room, if_neg hv, if_pos hz])
  rw [if_neg hz]
  refine z_if_ne (tgt := 25) (q := 23) dX8_room_20 (by decide) rfl (fun _ => ?_) (fun hc => False.elim (absurd hc (by decide)))
  rw [sp_room, if_neg hv, if_neg hz, hgr]
  refine z_aload_n (q := 26) dX8_room_25 rfl rfl rfl ?_
  refine z_getR (q := 29) 8 0 1 12 rfl (by decide) rfl rfl rfl (by with_reducible assumption) (by with_reducible assumption) dX8_room_26 rfl ?_
  refine z_iconst (q := 30) (v := nI 0) dX8_room_29 (by rfl) rfl ?_
  refine z_ialdV (q := 31) _ (by with_reducible assumption) (rfl) (by omega) (by decide) (h0) dX8_room_30 rfl ?_
  refine z_bipush (q := 33) (v := nI 8) dX8_room_31 (by rfl) rfl ?_
  refine z_icmpn_ne (rfl) (rfl) (by omega) (by omega) (tgt := 39) (q := 36) dX8_room_33 (by decide) rfl (fun hc => ?_) (fun hc => ?_)
  · rw [if_neg hc]
    refine z_aload_n (q := 40) dX8_room_39 rfl rfl rfl ?_
    refine z_invV (q := 43) (c_X8_changes G m pc hM hpc h4) (by with_reducible assumption) rfl gX8_room_X8_changes rfl hy_X8_changes rfl rfl rfl rfl (Nat.le_of_ble_eq_true rfl) ⟨Nat.zero_le _, Nat.zero_le _⟩ dX8_room_40 rfl (z_rnR fun I3 R3 hZ3 => ?_)
    obtain ⟨rfl, h3⟩ := hZ3
    have es : I3 (m + 1) = I (m + 1) := h3.2.2 _ (by omega) (by omega)
    have e0 : I3 (m + 1) 0 = nI nr := by rw [es]; exact h0
    have loop : ∀ i, i ≤ 32 → ∀ I4, I4 (m + 1) = zfG (roomA (I (m + 1)) nr v a) (401 + 32 * nr) i → (∀ q, q ≠ m + 1 → I4 q = I3 q) → z_X G muX8_room (1, 0, 0) (z_rel (some (.int (I (m + 1) 0, some (roomG (I (m + 1)) nr v a)).1)) n T (fun I' R' => R' = R3 ∧ z_upto m pc I I' (I (m + 1) 0, some (roomG (I (m + 1)) nr v a)).2)) n T I4 R3 0 0 127 [(0, .ref m), (1, .int v), (2, .int a), (3, .int (nI nr)), (4, .int (nI (9 + 6 * nr))), (5, .int (nI i))] [] := by
      refine z_up (N := 32) _ ?_ ?_
      · intro I4 e1 e2
        have e3 : I4 (m + 1) 0 = nI nr := by
          rw [e1, zfG, if_neg (by omega)]
          unfold roomA
          rw [upd_n _ _ (by omega), upd_n _ _ (by omega), upd_n _ _ (by omega), upd_n _ _ (by omega), upd_n _ _ (by omega), upd_n _ _ (by omega)]
          exact h0
        refine z_iload (q := 129) (i := 5) dX8_room_127 rfl rfl ?_
        refine z_bipush (q := 131) (v := nI 32) dX8_room_129 (by rfl) rfl ?_
        refine z_icmpn_ge (rfl) (rfl) (by omega) (by omega) (tgt := 157) (q := 134) dX8_room_131 (by decide) rfl (fun _ => ?_) (fun hc => absurd hc (by omega))
        refine z_aload_n (q := 158) dX8_room_157 rfl rfl rfl ?_
        refine z_getR (q := 161) 8 0 1 12 rfl (by decide) rfl rfl rfl (by with_reducible assumption) (by with_reducible assumption) dX8_room_158 rfl ?_
        refine z_iconst (q := 162) (v := nI 0) dX8_room_161 (by rfl) rfl ?_
        refine z_dup2 (q := 163) dX8_room_162 rfl rfl rfl ?_
        refine z_ialdV (q := 164) _ (by with_reducible assumption) (rfl) (by omega) (by decide) (e3) dX8_room_163 rfl ?_
        refine z_iconst (q := 165) (v := nI 1) dX8_room_164 (by rfl) rfl ?_
        refine z_iaddE (q := 166) dX8_room_165 (nI_add _ _) rfl ?_
        refine z_iast (q := 167) _ (by with_reducible assumption) (rfl) (by omega) (by decide) dX8_room_166 rfl ?_
        refine z_iload_n (q := 168) dX8_room_167 rfl rfl rfl ?_
        refine z_iret rfl dX8_room_168 (Nat.zero_le _) (Nat.zero_le _) ⟨by rw [h0], rfl, rfl, rfl, z_upG h3 ?_ (fun q h1 _ => by rw [zw_row _ _ h1]; exact e2 q h1)⟩
        rw [zw_upd, e1]
        rfl
      · intro i hi ih I4 e1 e2
        refine z_iload (q := 129) (i := 5) dX8_room_127 rfl rfl ?_
        refine z_bipush (q := 131) (v := nI 32) dX8_room_129 (by rfl) rfl ?_
        refine z_icmpn_ge (rfl) (rfl) (by omega) (by omega) (tgt := 157) (q := 134) dX8_room_131 (by decide) rfl (fun hc => absurd hc (by omega)) (fun _ => ?_)
        refine z_aload_n (q := 135) dX8_room_134 rfl rfl rfl ?_
        refine z_getR (q := 138) 8 0 1 12 rfl (by decide) rfl rfl rfl (by with_reducible assumption) (by with_reducible assumption) dX8_room_135 rfl ?_
        refine z_sipush (q := 141) (v := nI 401) dX8_room_138 (by rfl) rfl ?_
        refine z_bipush (q := 143) (v := nI 32) dX8_room_141 (by rfl) rfl ?_
        refine z_iload_n (q := 144) dX8_room_143 rfl rfl rfl ?_
        refine z_imulE (q := 145) dX8_room_144 (pk_mul _ _) rfl ?_
        refine z_iaddE (q := 146) dX8_room_145 (nI_add _ _) rfl ?_
        refine z_iload (q := 148) (i := 5) dX8_room_146 rfl rfl ?_
        refine z_iaddE (q := 149) dX8_room_148 (nI_add _ _) rfl ?_
        refine z_iconst (q := 150) (v := nI 0) dX8_room_149 (by rfl) rfl ?_
        refine z_iast (q := 151) _ (by with_reducible assumption) (rfl) (by omega) (by decide) dX8_room_150 rfl ?_
        refine z_iinc (q := 154) dX8_room_151 rfl (nI_add _ 1) (by decide) rfl ?_
        refine z_goto (q := 127) dX8_room_154 (by decide) ?_
        refine ih _ ?_ (fun q h1 => by rw [zw_row _ _ h1]; exact e2 q h1)
        rw [zw_upd, e1, nI_0]
        exact zfG_s _ _ _
    refine z_aload_n (q := 44) dX8_room_43 rfl rfl rfl ?_
    refine z_getR (q := 47) 8 0 1 12 rfl (by decide) rfl rfl rfl (by with_reducible assumption) (by with_reducible assumption) dX8_room_44 rfl ?_
    refine z_iconst (q := 48) (v := nI 0) dX8_room_47 (by rfl) rfl ?_
    refine z_ialdV (q := 49) _ (by with_reducible assumption) (rfl) (by omega) (by decide) (e0) dX8_room_48 rfl ?_
    refine z_istore_n (q := 50) dX8_room_49 rfl (by decide) rfl ?_
    refine z_bipush (q := 52) (v := nI 9) dX8_room_50 (by rfl) rfl ?_
    refine z_bipush (q := 54) (v := nI 6) dX8_room_52 (by rfl) rfl ?_
    refine z_iload_n (q := 55) dX8_room_54 rfl rfl rfl ?_
    refine z_imulE (q := 56) dX8_room_55 (pk_mul _ _) rfl ?_
    refine z_iaddE (q := 57) dX8_room_56 (nI_add _ _) rfl ?_
    refine z_istore (q := 59) dX8_room_57 (by decide) rfl ?_
    refine z_aload_n (q := 60) dX8_room_59 rfl rfl rfl ?_
    refine z_getR (q := 63) 8 0 1 12 rfl (by decide) rfl rfl rfl (by with_reducible assumption) (by with_reducible assumption) dX8_room_60 rfl ?_
    refine z_iload (q := 65) (i := 4) dX8_room_63 rfl rfl ?_
    refine z_iconst (q := 66) (v := nI 0) dX8_room_65 (by rfl) rfl ?_
    refine z_iaddE (q := 67) dX8_room_66 (nI_add _ _) rfl ?_
    refine z_iload_n (q := 68) dX8_room_67 rfl rfl rfl ?_
    refine z_iast (q := 69) _ (by with_reducible assumption) (rfl) (by omega) (by decide) dX8_room_68 rfl ?_
    refine z_aload_n (q := 70) dX8_room_69 rfl rfl rfl ?_
    refine z_getR (q := 73) 8 0 1 12 rfl (by decide) rfl rfl rfl (by with_reducible assumption) (by with_reducible assumption) dX8_room_70 rfl ?_
    refine z_iload (q := 75) (i := 4) dX8_room_73 rfl rfl ?_
    refine z_iconst (q := 76) (v := nI 1) dX8_room_75 (by rfl) rfl ?_
    refine z_iaddE (q := 77) dX8_room_76 (nI_add _ _) rfl ?_
    refine z_iload_n (q := 78) dX8_room_77 rfl rfl rfl ?_
    refine z_iast (q := 79) _ (by with_reducible assumption) (rfl) (by omega) (by decide) dX8_room_78 rfl ?_
    refine z_aload_n (q := 80) dX8_room_79 rfl rfl rfl ?_
    refine z_getR (q := 83) 8 0 1 12 rfl (by decide) rfl rfl rfl (by with_reducible assumption) (by with_reducible assumption) dX8_room_80 rfl ?_
    refine z_iload (q := 85) (i := 4) dX8_room_83 rfl rfl ?_
    refine z_iconst (q := 86) (v := nI 2) dX8_room_85 (by rfl) rfl ?_
    refine z_iaddE (q := 87) dX8_room_86 (nI_add _ _) rfl ?_
    refine z_iconst (q := 88) (v := nI 0) dX8_room_87 (by rfl) rfl ?_
    refine z_iast (q := 89) _ (by with_reducible assumption) (rfl) (by omega) (by decide) dX8_room_88 rfl ?_
    refine z_aload_n (q := 90) dX8_room_89 rfl rfl rfl ?_
    refine z_getR (q := 93) 8 0 1 12 rfl (by decide) rfl rfl rfl (by with_reducible assumption) (by with_reducible assumption) dX8_room_90 rfl ?_
    refine z_iload (q := 95) (i := 4) dX8_room_93 rfl rfl ?_
    refine z_iconst (q := 96) (v := nI 3) dX8_room_95 (by rfl) rfl ?_
    refine z_iaddE (q := 97) dX8_room_96 (nI_add _ _) rfl ?_
    refine z_iconst (q := 98) (v := nI 0) dX8_room_97 (by rfl) rfl ?_
    refine z_iast (q := 99) _ (by with_reducible assumption) (rfl) (by omega) (by decide) dX8_room_98 rfl ?_
    refine z_aload_n (q := 100) dX8_room_99 rfl rfl rfl ?_
    refine z_getR (q := 103) 8 0 1 12 rfl (by decide) rfl rfl rfl (by with_reducible assumption) (by with_reducible assumption) dX8_room_100 rfl ?_
    refine z_iload (q := 105) (i := 4) dX8_room_103 rfl rfl ?_
    refine z_iconst (q := 106) (v := nI 4) dX8_room_105 (by rfl) rfl ?_
    refine z_iaddE (q := 107) dX8_room_106 (nI_add _ _) rfl ?_
    refine z_iconst (q := 108) (v := nI 0) dX8_room_107 (by rfl) rfl ?_
    refine z_iast (q := 109) _ (by with_reducible assumption) (rfl) (by omega) (by decide) dX8_room_108 rfl ?_
    refine z_aload_n (q := 110) dX8_room_109 rfl rfl rfl ?_
    refine z_getR (q := 113) 8 0 1 12 rfl (by decide) rfl rfl rfl (by with_reducible assumption) (by with_reducible assumption) dX8_room_110 rfl ?_
    refine z_iload (q := 115) (i := 4) dX8_room_113 rfl rfl ?_
    refine z_iconst (q := 116) (v := nI 5) dX8_room_115 (by rfl) rfl ?_
    refine z_iaddE (q := 117) dX8_room_116 (nI_add _ _) rfl ?_
    refine z_aload_n (q := 118) dX8_room_117 rfl rfl rfl ?_
    refine z_getR (q := 121) 8 0 1 12 rfl (by decide) rfl rfl rfl (by with_reducible assumption) (by with_reducible assumption) dX8_room_118 rfl ?_
    refine z_iconst (q := 122) (v := nI 3) dX8_room_121 (by rfl) rfl ?_
    refine z_iald (q := 123) _ (by with_reducible assumption) (rfl) (by omega) (by decide) dX8_room_122 rfl ?_
    refine z_iast (q := 124) _ (by with_reducible assumption) (rfl) (by omega) (by decide) dX8_room_123 rfl ?_
    refine z_iconst (q := 125) (v := nI 0) dX8_room_124 (by rfl) rfl ?_
    refine z_istore (q := 127) dX8_room_125 (by decide) rfl ?_
    refine loop 0 (Nat.zero_le _) _ ?_ (fun q h1 => by rw [zw_row _ _ h1, zw_row _ _ h1, zw_row _ _ h1, zw_row _ _ h1, zw_row _ _ h1, zw_row _ _ h1])
    rw [zfG_0, zw_upd, zw_k _ _ (by omega), zw_k _ _ (by omega), zw_k _ _ (by omega), zw_k _ _ (by omega), zw_k _ _ (by omega), zw_upd, zw_upd, zw_upd, zw_upd, zw_upd, es]
    rfl
  · rw [if_pos hc]
    refine z_bipush (q := 38) (v := (-3)) dX8_room_36 (by rfl) rfl ?_
    exact z_iret rfl dX8_room_38 (Nat.zero_le _) (Nat.zero_le _) ⟨rfl, rfl, rfl, rfl, rfl, rfl, fun _ _ _ _ => rfl⟩
def doorA (g : Nat → Int32) (d : Nat) (a b ar sp de : Int32) : Nat → Int32 := upd (upd (upd (upd (upd (zfG g (57 + 10 * d) 10) (57 + 10 * d) a) (57 + 10 * d + 1) b) (57 + 10 * d + 2) ar) (57 + 10 * d + 3) sp) (57 + 10 * d + 4) de
def doorG (g : Nat → Int32) (d : Nat) (a b ar sp de : Int32) : Nat → Int32 := upd (zfG (doorA g d a b ar sp de) (177 + 12 * d) 12) 1 (nI (d + 1))
abbrev spcG (g : Nat → Int32) (r : Nat) (a : Int32) : Prop := r = 8 ∨ ¬ g (9 + 6 * r + 0) < areas g (nI r) (gN g 1) + a
def doorP (g : Nat → Int32) (x y : Nat) (ar sp de : Int32) : Int32 × Option (Nat → Int32) := if ¬ spcG g x ar then (-2, none) else if ¬ spcG g y ar then (-2, none) else if gN g 1 = 12 then (-3, none) else (g 1, some (doorG g (gN g 1) (nI x) (nI y) ar sp de))
def sp_door (g : Nat → Int32) (x y ar sp de : Int32) : Int32 × Option (Nat → Int32) := if x < 0 ∨ g 0 ≤ x then (-1, none) else if (y < 0 ∨ g 0 ≤ y) ∧ ¬ y = nI 8 then (-1, none) else if x = y then (-1, none) else if ar < nI 1 ∨ nI 1000 < ar then (-1, none) else if sp < nI 1 ∨ nI 10 < sp then (-1, none) else if de < nI 0 ∨ nI 5 < de then (-1, none) else doorP g x.toNatClampNeg y.toNatClampNeg ar sp de
set_option maxRecDepth 100000 in
set_option maxHeartbeats 4000000 in
theorem c_X8_door (G : zG) {n : Nat} {T : zTT} {I : zII} {R : zRR} (m nr nd np st pc : Nat) (x y ar sp de : Int32) (hM : z_Mod T R m) (hI : INV nr nd np st (I (m + 1))) (hpc : I m 3 = nI pc) (h4 : pc ≤ 4) : Ct G yX8_door wsX8_door (3, 0, 0) [.ref m, .int x, .int y, .int ar, .int sp, .int de] n T I R (z_rel (some (.int (sp_door (I (m + 1)) x y ar sp de).1)) n T (fun I' R' => R' = R ∧ z_upto m pc I I' (sp_door (I (m + 1)) x y ar sp de).2)) := by
  refine Ct.ofX (M := muX8_door) (ls := [(0, .ref m), (1, .int x), (2, .int y), (3, .int ar), (4, .int sp), (5, .int de)]) (by decide +kernel) rfl (by decide) rfl rfl (Nat.le_of_ble_eq_true rfl) ?_
  have hTm := hM.1
  have hnr := hI.1.2
  have hnd := hI.2.1.2
  have hd1 := hI.2.1.1
  obtain ⟨-, ⟨hTs, hRs⟩, -⟩ := id hM
  have hgd : gN (I (m + 1)) 1 = nd := gN_of hI.2.1.1 (by omega)
  have bad : sp_door (I (m + 1)) x y ar sp de = (-1, none) → z_X G muX8_door (3, 0, 0) (z_rel (some (.int (sp_door (I (m + 1)) x y ar sp de).1)) n T (fun I' R' => R' = R ∧ z_upto m pc I I' (sp_door (I (m + 1)) x y ar sp de).2)) n T I R 0 0 59 [(0, .ref m), (1, .int x), (2, .int y), (3, .int ar), (4, .int sp), (5, .int de)] [] := by
    intro hb
    rw [hb]
    refine z_iconst (q := 60) (v := (-1)) dX8_door_59 (by rfl) rfl ?_
    exact z_iret rfl dX8_door_60 (Nat.zero_le _) (Nat.zero_le _) ⟨rfl, rfl, rfl, rfl, ⟨rfl, rfl, fun _ _ _ _ => rfl⟩⟩
  refine z_aload_n (q := 1) dX8_door_0 rfl rfl rfl ?_
  refine z_iload_n (q := 2) dX8_door_1 rfl rfl rfl ?_
  refine z_invV (q := 5) (c_X8_isRoom G m x hM) (by with_reducible assumption) rfl gX8_door_X8_isRoom rfl hy_X8_isRoom rfl rfl rfl rfl (Nat.le_of_ble_eq_true rfl) ⟨Nat.zero_le _, Nat.zero_le _⟩ dX8_door_2 rfl (z_rv ?_)
  by_cases hv : x < 0 ∨ I (m + 1) 0 ≤ x
  · rw [if_pos hv]
    refine z_if_eq (tgt := 59) (q := 8) dX8_door_5 (by decide) rfl (fun _ => ?_) (fun hc => False.elim (hc rfl))
    exact bad (by rw [sp_door, if_pos hv])
  rw [if_neg hv]
  refine z_if_eq (tgt := 59) (q := 8) dX8_door_5 (by decide) rfl (fun hc => False.elim (absurd hc (by decide))) (fun _ => ?_)
  have next : (¬ ((y < 0 ∨ I (m + 1) 0 ≤ y) ∧ ¬ y = nI 8)) → z_X G muX8_door (3, 0, 0) (z_rel (some (.int (sp_door (I (m + 1)) x y ar sp de).1)) n T (fun I' R' => R' = R ∧ z_upto m pc I I' (sp_door (I (m + 1)) x y ar sp de).2)) n T I R 0 0 22 [(0, .ref m), (1, .int x), (2, .int y), (3, .int ar), (4, .int sp), (5, .int de)] [] := by
    intro hw
    refine z_iload_n (q := 23) dX8_door_22 rfl rfl rfl ?_
    refine z_iload_n (q := 24) dX8_door_23 rfl rfl rfl ?_
    refine z_icmp_eq (tgt := 59) (q := 27) dX8_door_24 (by decide) rfl (fun hxy => ?_) (fun hxy => ?_)
    · exact bad (by rw [sp_door, if_neg hv, if_neg hw, if_pos hxy])
    refine z_iload_n (q := 28) dX8_door_27 rfl rfl rfl ?_
    refine z_iconst (q := 29) (v := nI 1) dX8_door_28 (by rfl) rfl ?_
    refine z_sipush (q := 32) (v := nI 1000) dX8_door_29 (by rfl) rfl ?_
    refine z_invS (q := 35) (c_X8_in G ar (nI 1) (nI 1000)) gX8_door_X8_in rfl hy_X8_in rfl rfl rfl rfl (Nat.le_of_ble_eq_true rfl) ⟨Nat.zero_le _, Nat.zero_le _⟩ dX8_door_32 rfl (z_rv ?_)
    by_cases ha : ar < nI 1 ∨ nI 1000 < ar
    · rw [if_pos ha]
      refine z_if_eq (tgt := 59) (q := 38) dX8_door_35 (by decide) rfl (fun _ => ?_) (fun hc => False.elim (hc rfl))
      exact bad (by rw [sp_door, if_neg hv, if_neg hw, if_neg hxy, if_pos ha])
    rw [if_neg ha]
    refine z_if_eq (tgt := 59) (q := 38) dX8_door_35 (by decide) rfl (fun hc => False.elim (absurd hc (by decide))) (fun _ => ?_)
    refine z_iload (q := 40) (i := 4) dX8_door_38 rfl rfl ?_
    refine z_iconst (q := 41) (v := nI 1) dX8_door_40 (by rfl) rfl ?_
    refine z_bipush (q := 43) (v := nI 10) dX8_door_41 (by rfl) rfl ?_
    refine z_invS (q := 46) (c_X8_in G sp (nI 1) (nI 10)) gX8_door_X8_in rfl hy_X8_in rfl rfl rfl rfl (Nat.le_of_ble_eq_true rfl) ⟨Nat.zero_le _, Nat.zero_le _⟩ dX8_door_43 rfl (z_rv ?_)
    by_cases hs : sp < nI 1 ∨ nI 10 < sp
    · rw [if_pos hs]
      refine z_if_eq (tgt := 59) (q := 49) dX8_door_46 (by decide) rfl (fun _ => ?_) (fun hc => False.elim (hc rfl))
      exact bad (by rw [sp_door, if_neg hv, if_neg hw, if_neg hxy, if_neg ha, if_pos hs])
    rw [if_neg hs]
    refine z_if_eq (tgt := 59) (q := 49) dX8_door_46 (by decide) rfl (fun hc => False.elim (absurd hc (by decide))) (fun _ => ?_)
    refine z_iload (q := 51) (i := 5) dX8_door_49 rfl rfl ?_
    refine z_iconst (q := 52) (v := nI 0) dX8_door_51 (by rfl) rfl ?_
    refine z_iconst (q := 53) (v := nI 5) dX8_door_52 (by rfl) rfl ?_
    refine z_invS (q := 56) (c_X8_in G de (nI 0) (nI 5)) gX8_door_X8_in rfl hy_X8_in rfl rfl rfl rfl (Nat.le_of_ble_eq_true rfl) ⟨Nat.zero_le _, Nat.zero_le _⟩ dX8_door_53 rfl (z_rv ?_)
    by_cases hd : de < nI 0 ∨ nI 5 < de
    · rw [if_pos hd]
      refine z_if_ne (tgt := 61) (q := 59) dX8_door_56 (by decide) rfl (fun hc => False.elim (hc rfl)) (fun _ => ?_)
      exact bad (by rw [sp_door, if_neg hv, if_neg hw, if_neg hxy, if_neg ha, if_neg hs, if_pos hd])
    rw [if_neg hd]
    refine z_if_ne (tgt := 61) (q := 59) dX8_door_56 (by decide) rfl (fun _ => ?_) (fun hc => False.elim (absurd hc (by decide)))
    obtain ⟨p, hp, rfl⟩ := z_ix hI.1.1 (by omega) hv
    have hy : ∃ r, r ≤ 8 ∧ y = nI r := by
      by_cases h8 : y = nI 8
      · exact ⟨8, Nat.le_refl _, h8⟩
      · obtain ⟨r, hr, e⟩ := z_ix hI.1.1 (by omega) (fun q => hw ⟨q, h8⟩)
        exact ⟨r, by omega, e⟩
    obtain ⟨q, hq, rfl⟩ := hy
    have e : sp_door (I (m + 1)) (nI p) (nI q) ar sp de = doorP (I (m + 1)) p q ar sp de := by rw [sp_door, if_neg hv, if_neg hw, if_neg hxy, if_neg ha, if_neg hs, if_neg hd, nI_clamp (by omega), nI_clamp (by omega)]
    rw [e]
    have no : doorP (I (m + 1)) p q ar sp de = (-2, none) → z_X G muX8_door (3, 0, 0) (z_rel (some (.int (doorP (I (m + 1)) p q ar sp de).1)) n T (fun I' R' => R' = R ∧ z_upto m pc I I' (doorP (I (m + 1)) p q ar sp de).2)) n T I R 0 0 79 [(0, .ref m), (1, .int (nI p)), (2, .int (nI q)), (3, .int ar), (4, .int sp), (5, .int de)] [] := by
      intro hb
      rw [hb]
      refine z_bipush (q := 81) (v := (-2)) dX8_door_79 (by rfl) rfl ?_
      exact z_iret rfl dX8_door_81 (Nat.zero_le _) (Nat.zero_le _) ⟨rfl, rfl, rfl, rfl, rfl, rfl, fun _ _ _ _ => rfl⟩
    refine z_aload_n (q := 62) dX8_door_61 rfl rfl rfl ?_
    refine z_iload_n (q := 63) dX8_door_62 rfl rfl rfl ?_
    refine z_iload_n (q := 64) dX8_door_63 rfl rfl rfl ?_
    refine z_invV (q := 67) (c_X8_hasSpace G m nd p ar hM hI.2.1.1 hnd (by omega)) (by with_reducible assumption) rfl gX8_door_X8_hasSpace rfl hy_X8_hasSpace rfl rfl rfl rfl (Nat.le_of_ble_eq_true rfl) ⟨Nat.zero_le _, Nat.zero_le _⟩ dX8_door_64 rfl (z_rv ?_)
    rw [← hgd]
    by_cases s1 : ¬ spcG (I (m + 1)) p ar
    · rw [if_neg s1]
      refine z_if_eq (tgt := 79) (q := 70) dX8_door_67 (by decide) rfl (fun _ => ?_) (fun hc => False.elim (hc rfl))
      exact no (by rw [doorP, if_pos s1])
    have s1 := Classical.not_not.mp s1
    rw [if_pos s1]
    refine z_if_eq (tgt := 79) (q := 70) dX8_door_67 (by decide) rfl (fun hc => False.elim (absurd hc (by decide))) (fun _ => ?_)
    refine z_aload_n (q := 71) dX8_door_70 rfl rfl rfl ?_
    refine z_iload_n (q := 72) dX8_door_71 rfl rfl rfl ?_
    refine z_iload_n (q := 73) dX8_door_72 rfl rfl rfl ?_
    refine z_invV (q := 76) (c_X8_hasSpace G m nd q ar hM hI.2.1.1 hnd hq) (by with_reducible assumption) rfl gX8_door_X8_hasSpace rfl hy_X8_hasSpace rfl rfl rfl rfl (Nat.le_of_ble_eq_true rfl) ⟨Nat.zero_le _, Nat.zero_le _⟩ dX8_door_73 rfl (z_rv ?_)
    rw [← hgd]
    by_cases s2 : ¬ spcG (I (m + 1)) q ar
    · rw [if_neg s2]
      refine z_if_ne (tgt := 82) (q := 79) dX8_door_76 (by decide) rfl (fun hc => False.elim (hc rfl)) (fun _ => ?_)
      exact no (by rw [doorP, if_neg (fun z => z s1), if_pos s2])
    have s2 := Classical.not_not.mp s2
    rw [if_pos s2]
    refine z_if_ne (tgt := 82) (q := 79) dX8_door_76 (by decide) rfl (fun _ => ?_) (fun hc => False.elim (absurd hc (by decide)))
    rw [doorP, if_neg (fun z => z s1), if_neg (fun z => z s2), hgd]
    refine z_aload_n (q := 83) dX8_door_82 rfl rfl rfl ?_
    refine z_getR (q := 86) 8 0 1 30 rfl (by decide) rfl rfl rfl (by with_reducible assumption) (by with_reducible assumption) dX8_door_83 rfl ?_
    refine z_iconst (q := 87) (v := nI 1) dX8_door_86 (by rfl) rfl ?_
    refine z_ialdV (q := 88) _ (by with_reducible assumption) (rfl) (by omega) (by decide) (hd1) dX8_door_87 rfl ?_
    refine z_bipush (q := 90) (v := nI 12) dX8_door_88 (by rfl) rfl ?_
    refine z_icmpn_ne (rfl) (rfl) (by omega) (by omega) (tgt := 96) (q := 93) dX8_door_90 (by decide) rfl (fun h12 => ?_) (fun h12 => ?_)
    · rw [if_neg h12]
      refine z_aload_n (q := 97) dX8_door_96 rfl rfl rfl ?_
      refine z_invV (q := 100) (c_X8_changes G m pc hM hpc h4) (by with_reducible assumption) rfl gX8_door_X8_changes rfl hy_X8_changes rfl rfl rfl rfl (Nat.le_of_ble_eq_true rfl) ⟨Nat.zero_le _, Nat.zero_le _⟩ dX8_door_97 rfl (z_rnR fun I3 R3 hZ3 => ?_)
      obtain ⟨rfl, h3⟩ := hZ3
      have es : I3 (m + 1) = I (m + 1) := h3.2.2 _ (by omega) (by omega)
      have e0 : I3 (m + 1) 1 = nI nd := by rw [es]; exact hd1
      have loop2 : ∀ i, i ≤ 12 → ∀ I4, I4 (m + 1) = zfG (doorA (I (m + 1)) nd (nI p) (nI q) ar sp de) (177 + 12 * nd) i → (∀ q, q ≠ m + 1 → I4 q = I3 q) → z_X G muX8_door (3, 0, 0) (z_rel (some (.int (I (m + 1) 1, some (doorG (I (m + 1)) nd (nI p) (nI q) ar sp de)).1)) n T (fun I' R' => R' = R3 ∧ z_upto m pc I I' (I (m + 1) 1, some (doorG (I (m + 1)) nd (nI p) (nI q) ar sp de)).2)) n T I4 R3 0 0 198 [(0, .ref m), (1, .int (nI p)), (2, .int (nI q)), (3, .int ar), (4, .int sp), (5, .int de), (6, .int (nI nd)), (7, .int (nI (57 + 10 * nd))), (8, .int (nI i))] [] := by
        refine z_up (N := 12) _ ?_ ?_
        · intro I4 e1 e2
          have e3 : I4 (m + 1) 1 = nI nd := by
            rw [e1, zfG, if_neg (by omega)]
            unfold doorA
            rw [upd_n _ _ (by omega), upd_n _ _ (by omega), upd_n _ _ (by omega), upd_n _ _ (by omega), upd_n _ _ (by omega), zfG, if_neg (by omega)]
            exact hd1
          refine z_iload (q := 200) (i := 8) dX8_door_198 rfl rfl ?_
          refine z_bipush (q := 202) (v := nI 12) dX8_door_200 (by rfl) rfl ?_
          refine z_icmpn_ge (rfl) (rfl) (by omega) (by omega) (tgt := 229) (q := 205) dX8_door_202 (by decide) rfl (fun _ => ?_) (fun hc => absurd hc (by omega))
          refine z_aload_n (q := 230) dX8_door_229 rfl rfl rfl ?_
          refine z_getR (q := 233) 8 0 1 30 rfl (by decide) rfl rfl rfl (by with_reducible assumption) (by with_reducible assumption) dX8_door_230 rfl ?_
          refine z_iconst (q := 234) (v := nI 1) dX8_door_233 (by rfl) rfl ?_
          refine z_dup2 (q := 235) dX8_door_234 rfl rfl rfl ?_
          refine z_ialdV (q := 236) _ (by with_reducible assumption) (rfl) (by omega) (by decide) (e3) dX8_door_235 rfl ?_
          refine z_iconst (q := 237) (v := nI 1) dX8_door_236 (by rfl) rfl ?_
          refine z_iaddE (q := 238) dX8_door_237 (nI_add _ _) rfl ?_
          refine z_iast (q := 239) _ (by with_reducible assumption) (rfl) (by omega) (by decide) dX8_door_238 rfl ?_
          refine z_iload (q := 241) (i := 6) dX8_door_239 rfl rfl ?_
          refine z_iret rfl dX8_door_241 (Nat.zero_le _) (Nat.zero_le _) ⟨by rw [hd1], rfl, rfl, rfl, z_upG h3 ?_ (fun q h1 _ => by rw [zw_row _ _ h1]; exact e2 q h1)⟩
          rw [zw_upd, e1]
          rfl
        · intro i hi ih I4 e1 e2
          refine z_iload (q := 200) (i := 8) dX8_door_198 rfl rfl ?_
          refine z_bipush (q := 202) (v := nI 12) dX8_door_200 (by rfl) rfl ?_
          refine z_icmpn_ge (rfl) (rfl) (by omega) (by omega) (tgt := 229) (q := 205) dX8_door_202 (by decide) rfl (fun hc => absurd hc (by omega)) (fun _ => ?_)
          refine z_aload_n (q := 206) dX8_door_205 rfl rfl rfl ?_
          refine z_getR (q := 209) 8 0 1 30 rfl (by decide) rfl rfl rfl (by with_reducible assumption) (by with_reducible assumption) dX8_door_206 rfl ?_
          refine z_sipush (q := 212) (v := nI 177) dX8_door_209 (by rfl) rfl ?_
          refine z_bipush (q := 214) (v := nI 12) dX8_door_212 (by rfl) rfl ?_
          refine z_iload (q := 216) (i := 6) dX8_door_214 rfl rfl ?_
          refine z_imulE (q := 217) dX8_door_216 (pk_mul _ _) rfl ?_
          refine z_iaddE (q := 218) dX8_door_217 (nI_add _ _) rfl ?_
          refine z_iload (q := 220) (i := 8) dX8_door_218 rfl rfl ?_
          refine z_iaddE (q := 221) dX8_door_220 (nI_add _ _) rfl ?_
          refine z_iconst (q := 222) (v := nI 0) dX8_door_221 (by rfl) rfl ?_
          refine z_iast (q := 223) _ (by with_reducible assumption) (rfl) (by omega) (by decide) dX8_door_222 rfl ?_
          refine z_iinc (q := 226) dX8_door_223 rfl (nI_add _ 1) (by decide) rfl ?_
          refine z_goto (q := 198) dX8_door_226 (by decide) ?_
          refine ih _ ?_ (fun q h1 => by rw [zw_row _ _ h1]; exact e2 q h1)
          rw [zw_upd, e1, nI_0]
          exact zfG_s _ _ _
      have loop : ∀ i, i ≤ 10 → ∀ I4, I4 (m + 1) = zfG (I (m + 1)) (57 + 10 * nd) i → (∀ q, q ≠ m + 1 → I4 q = I3 q) → z_X G muX8_door (3, 0, 0) (z_rel (some (.int (I (m + 1) 1, some (doorG (I (m + 1)) nd (nI p) (nI q) ar sp de)).1)) n T (fun I' R' => R' = R3 ∧ z_upto m pc I I' (I (m + 1) 1, some (doorG (I (m + 1)) nd (nI p) (nI q) ar sp de)).2)) n T I4 R3 0 0 121 [(0, .ref m), (1, .int (nI p)), (2, .int (nI q)), (3, .int ar), (4, .int sp), (5, .int de), (6, .int (nI nd)), (7, .int (nI (57 + 10 * nd))), (8, .int (nI i))] [] := by
        refine z_up (N := 10) _ ?_ ?_
        · intro I4 e1 e2
          refine z_iload (q := 123) (i := 8) dX8_door_121 rfl rfl ?_
          refine z_bipush (q := 125) (v := nI 10) dX8_door_123 (by rfl) rfl ?_
          refine z_icmpn_ge (rfl) (rfl) (by omega) (by omega) (tgt := 145) (q := 128) dX8_door_125 (by decide) rfl (fun _ => ?_) (fun hc => absurd hc (by omega))
          refine z_aload_n (q := 146) dX8_door_145 rfl rfl rfl ?_
          refine z_getR (q := 149) 8 0 1 30 rfl (by decide) rfl rfl rfl (by with_reducible assumption) (by with_reducible assumption) dX8_door_146 rfl ?_
          refine z_iload (q := 151) (i := 7) dX8_door_149 rfl rfl ?_
          refine z_iload_n (q := 152) dX8_door_151 rfl rfl rfl ?_
          refine z_iast (q := 153) _ (by with_reducible assumption) (rfl) (by omega) (by decide) dX8_door_152 rfl ?_
          refine z_aload_n (q := 154) dX8_door_153 rfl rfl rfl ?_
          refine z_getR (q := 157) 8 0 1 30 rfl (by decide) rfl rfl rfl (by with_reducible assumption) (by with_reducible assumption) dX8_door_154 rfl ?_
          refine z_iload (q := 159) (i := 7) dX8_door_157 rfl rfl ?_
          refine z_iconst (q := 160) (v := nI 1) dX8_door_159 (by rfl) rfl ?_
          refine z_iaddE (q := 161) dX8_door_160 (nI_add _ _) rfl ?_
          refine z_iload_n (q := 162) dX8_door_161 rfl rfl rfl ?_
          refine z_iast (q := 163) _ (by with_reducible assumption) (rfl) (by omega) (by decide) dX8_door_162 rfl ?_
          refine z_aload_n (q := 164) dX8_door_163 rfl rfl rfl ?_
          refine z_getR (q := 167) 8 0 1 30 rfl (by decide) rfl rfl rfl (by with_reducible assumption) (by with_reducible assumption) dX8_door_164 rfl ?_
          refine z_iload (q := 169) (i := 7) dX8_door_167 rfl rfl ?_
          refine z_iconst (q := 170) (v := nI 2) dX8_door_169 (by rfl) rfl ?_
          refine z_iaddE (q := 171) dX8_door_170 (nI_add _ _) rfl ?_
          refine z_iload_n (q := 172) dX8_door_171 rfl rfl rfl ?_
          refine z_iast (q := 173) _ (by with_reducible assumption) (rfl) (by omega) (by decide) dX8_door_172 rfl ?_
          refine z_aload_n (q := 174) dX8_door_173 rfl rfl rfl ?_
          refine z_getR (q := 177) 8 0 1 30 rfl (by decide) rfl rfl rfl (by with_reducible assumption) (by with_reducible assumption) dX8_door_174 rfl ?_
          refine z_iload (q := 179) (i := 7) dX8_door_177 rfl rfl ?_
          refine z_iconst (q := 180) (v := nI 3) dX8_door_179 (by rfl) rfl ?_
          refine z_iaddE (q := 181) dX8_door_180 (nI_add _ _) rfl ?_
          refine z_iload (q := 183) (i := 4) dX8_door_181 rfl rfl ?_
          refine z_iast (q := 184) _ (by with_reducible assumption) (rfl) (by omega) (by decide) dX8_door_183 rfl ?_
          refine z_aload_n (q := 185) dX8_door_184 rfl rfl rfl ?_
          refine z_getR (q := 188) 8 0 1 30 rfl (by decide) rfl rfl rfl (by with_reducible assumption) (by with_reducible assumption) dX8_door_185 rfl ?_
          refine z_iload (q := 190) (i := 7) dX8_door_188 rfl rfl ?_
          refine z_iconst (q := 191) (v := nI 4) dX8_door_190 (by rfl) rfl ?_
          refine z_iaddE (q := 192) dX8_door_191 (nI_add _ _) rfl ?_
          refine z_iload (q := 194) (i := 5) dX8_door_192 rfl rfl ?_
          refine z_iast (q := 195) _ (by with_reducible assumption) (rfl) (by omega) (by decide) dX8_door_194 rfl ?_
          refine z_iconst (q := 196) (v := nI 0) dX8_door_195 (by rfl) rfl ?_
          refine z_istore (q := 198) dX8_door_196 (by decide) rfl ?_
          refine loop2 0 (Nat.zero_le _) _ ?_ (fun q h1 => by rw [zw_row _ _ h1, zw_row _ _ h1, zw_row _ _ h1, zw_row _ _ h1, zw_row _ _ h1]; exact e2 q h1)
          rw [zfG_0, zw_upd, zw_upd, zw_upd, zw_upd, zw_upd, e1]
          rfl
        · intro i hi ih I4 e1 e2
          refine z_iload (q := 123) (i := 8) dX8_door_121 rfl rfl ?_
          refine z_bipush (q := 125) (v := nI 10) dX8_door_123 (by rfl) rfl ?_
          refine z_icmpn_ge (rfl) (rfl) (by omega) (by omega) (tgt := 145) (q := 128) dX8_door_125 (by decide) rfl (fun hc => absurd hc (by omega)) (fun _ => ?_)
          refine z_aload_n (q := 129) dX8_door_128 rfl rfl rfl ?_
          refine z_getR (q := 132) 8 0 1 30 rfl (by decide) rfl rfl rfl (by with_reducible assumption) (by with_reducible assumption) dX8_door_129 rfl ?_
          refine z_iload (q := 134) (i := 7) dX8_door_132 rfl rfl ?_
          refine z_iload (q := 136) (i := 8) dX8_door_134 rfl rfl ?_
          refine z_iaddE (q := 137) dX8_door_136 (nI_add _ _) rfl ?_
          refine z_iconst (q := 138) (v := nI 0) dX8_door_137 (by rfl) rfl ?_
          refine z_iast (q := 139) _ (by with_reducible assumption) (rfl) (by omega) (by decide) dX8_door_138 rfl ?_
          refine z_iinc (q := 142) dX8_door_139 rfl (nI_add _ 1) (by decide) rfl ?_
          refine z_goto (q := 121) dX8_door_142 (by decide) ?_
          refine ih _ ?_ (fun q h1 => by rw [zw_row _ _ h1]; exact e2 q h1)
          rw [zw_upd, e1, nI_0]
          exact zfG_s _ _ _
      refine z_aload_n (q := 101) dX8_door_100 rfl rfl rfl ?_
      refine z_getR (q := 104) 8 0 1 30 rfl (by decide) rfl rfl rfl (by with_reducible assumption) (by with_reducible assumption) dX8_door_101 rfl ?_
      refine z_iconst (q := 105) (v := nI 1) dX8_door_104 (by rfl) rfl ?_
      refine z_ialdV (q := 106) _ (by with_reducible assumption) (rfl) (by omega) (by decide) (e0) dX8_door_105 rfl ?_
      refine z_istore (q := 108) dX8_door_106 (by decide) rfl ?_
      refine z_bipush (q := 110) (v := nI 57) dX8_door_108 (by rfl) rfl ?_
      refine z_bipush (q := 112) (v := nI 10) dX8_door_110 (by rfl) rfl ?_
      refine z_iload (q := 114) (i := 6) dX8_door_112 rfl rfl ?_
      refine z_imulE (q := 115) dX8_door_114 (pk_mul _ _) rfl ?_
      refine z_iaddE (q := 116) dX8_door_115 (nI_add _ _) rfl ?_
      refine z_istore (q := 118) dX8_door_116 (by decide) rfl ?_
      refine z_iconst (q := 119) (v := nI 0) dX8_door_118 (by rfl) rfl ?_
      refine z_istore (q := 121) dX8_door_119 (by decide) rfl ?_
      refine loop 0 (Nat.zero_le _) _ ?_ (fun _ _ => rfl)
      rw [zfG_0]
      exact es
    · rw [if_pos h12]
      refine z_bipush (q := 95) (v := (-3)) dX8_door_93 (by rfl) rfl ?_
      exact z_iret rfl dX8_door_95 (Nat.zero_le _) (Nat.zero_le _) ⟨rfl, rfl, rfl, rfl, rfl, rfl, fun _ _ _ _ => rfl⟩
  refine z_aload_n (q := 9) dX8_door_8 rfl rfl rfl ?_
  refine z_iload_n (q := 10) dX8_door_9 rfl rfl rfl ?_
  refine z_invV (q := 13) (c_X8_isRoom G m y hM) (by with_reducible assumption) rfl gX8_door_X8_isRoom rfl hy_X8_isRoom rfl rfl rfl rfl (Nat.le_of_ble_eq_true rfl) ⟨Nat.zero_le _, Nat.zero_le _⟩ dX8_door_10 rfl (z_rv ?_)
  by_cases hw : y < 0 ∨ I (m + 1) 0 ≤ y
  · rw [if_pos hw]
    refine z_if_ne (tgt := 22) (q := 16) dX8_door_13 (by decide) rfl (fun hc => False.elim (hc rfl)) (fun _ => ?_)
    refine z_iload_n (q := 17) dX8_door_16 rfl rfl rfl ?_
    refine z_bipush (q := 19) (v := nI 8) dX8_door_17 (by rfl) rfl ?_
    refine z_icmp_ne (tgt := 59) (q := 22) dX8_door_19 (by decide) rfl (fun h8 => ?_) (fun h8 => ?_)
    · exact bad (by rw [sp_door, if_neg hv, if_pos ⟨hw, h8⟩])
    · exact next (fun q => q.2 h8)
  · rw [if_neg hw]
    refine z_if_ne (tgt := 22) (q := 16) dX8_door_13 (by decide) rfl (fun _ => ?_) (fun hc => False.elim (absurd hc (by decide)))
    exact next (fun q => hw q.1)
def posF (g : Nat → Int32) (t : Int32) : Nat → Nat → Nat
  | 0, k => k
  | f + 1, k => if t < g (321 + 5 * k + 0) then k else posF g t f (k + 1)
def insP (g : Nat → Int32) (np j : Nat) : Nat → Int32 := fun k => if 326 + 5 * np ≤ k + j ∧ k < 326 + 5 * np then g (k - 5) else g k
def putE (g : Nat → Int32) (np p : Nat) (t kd wh sp mu : Int32) : Nat → Int32 := upd (upd (upd (upd (upd (insP g np (5 * (np - p))) (321 + 5 * p + 0) t) (321 + 5 * p + 1) kd) (321 + 5 * p + 2) wh) (321 + 5 * p + 3) sp) (321 + 5 * p + 4) mu
def putB (g : Nat → Int32) (np p : Nat) (t kd wh sp mu : Int32) : Nat → Int32 := upd (putE g np p t kd wh sp mu) 2 (putE g np p t kd wh sp mu 2 + nI 1)
def putG (g : Nat → Int32) (np : Nat) (t kd wh sp mu : Int32) : Nat → Int32 := upd (putB g np (posF g t np 0) t kd wh sp mu) 5 (putB g np (posF g t np 0) t kd wh sp mu 5 + sp * mu)
set_option maxRecDepth 100000 in
set_option maxHeartbeats 4000000 in
theorem c_X8_puts (G : zG) {n : Nat} {T : zTT} {I : zII} {R : zRR} (m np : Nat) (t kd wh sp mu : Int32) (hM : z_Mod T R m) (h2 : I (m + 1) 2 = nI np) (hnp : np < 16) : Ct G yX8_puts wsX8_puts (1, 0, 0) [.ref m, .int t, .int kd, .int wh, .int sp, .int mu] n T I R (z_rel none n T (fun I' R' => R' = R ∧ z_row I (m + 1) (putG (I (m + 1)) np t kd wh sp mu) I')) := by
  refine Ct.ofX (M := muX8_puts) (ls := [(0, .ref m), (1, .int t), (2, .int kd), (3, .int wh), (4, .int sp), (5, .int mu)]) (by decide +kernel) rfl (by decide) rfl rfl (Nat.le_of_ble_eq_true rfl) ?_
  obtain ⟨hTm, ⟨hTs, hRs⟩, -⟩ := id hM
  have tail : ∀ p, p ≤ np → p = posF (I (m + 1)) t np 0 → z_X G muX8_puts (1, 0, 0) (z_rel none n T (fun I' R' => R' = R ∧ z_row I (m + 1) (putG (I (m + 1)) np t kd wh sp mu) I')) n T I R 0 0 34 [(0, .ref m), (1, .int t), (2, .int kd), (3, .int wh), (4, .int sp), (5, .int mu), (6, .int (nI p))] [] := by
    intro p hp hpp
    have loop : ∀ j, j ≤ 5 * (np - p) → ∀ c, c + j = 320 + 5 * np → ∀ I4, I4 (m + 1) = insP (I (m + 1)) np j → (∀ q, q ≠ m + 1 → I4 q = I q) → z_X G muX8_puts (1, 0, 0) (z_rel none n T (fun I' R' => R' = R ∧ z_row I (m + 1) (putG (I (m + 1)) np t kd wh sp mu) I')) n T I4 R 0 0 50 [(0, .ref m), (1, .int t), (2, .int kd), (3, .int wh), (4, .int sp), (5, .int mu), (6, .int (nI p)), (7, .int (nI c))] [] := by
      refine z_up (N := 5 * (np - p)) _ ?_ ?_
      · intro c hc I4 e1 e2
        refine z_iload (q := 52) (i := 7) dX8_puts_50 rfl rfl ?_
        refine z_sipush (q := 55) (v := nI 321) dX8_puts_52 (by rfl) rfl ?_
        refine z_iconst (q := 56) (v := nI 5) dX8_puts_55 (by rfl) rfl ?_
        refine z_iload (q := 58) (i := 6) dX8_puts_56 rfl rfl ?_
        refine z_imulE (q := 59) dX8_puts_58 (pk_mul _ _) rfl ?_
        refine z_iaddE (q := 60) dX8_puts_59 (nI_add _ _) rfl ?_
        refine z_icmpn_lt (rfl) (rfl) (by omega) (by omega) (tgt := 85) (q := 63) dX8_puts_60 (by decide) rfl (fun _ => ?_) (fun hc => absurd hc (by omega))
        refine z_sipush (q := 88) (v := nI 321) dX8_puts_85 (by rfl) rfl ?_
        refine z_iconst (q := 89) (v := nI 5) dX8_puts_88 (by rfl) rfl ?_
        refine z_iload (q := 91) (i := 6) dX8_puts_89 rfl rfl ?_
        refine z_imulE (q := 92) dX8_puts_91 (pk_mul _ _) rfl ?_
        refine z_iaddE (q := 93) dX8_puts_92 (nI_add _ _) rfl ?_
        refine z_istore (q := 95) dX8_puts_93 (by decide) rfl ?_
        refine z_aload_n (q := 96) dX8_puts_95 rfl rfl rfl ?_
        refine z_getR (q := 99) 8 0 1 6 rfl (by decide) rfl rfl rfl (by with_reducible assumption) (by with_reducible assumption) dX8_puts_96 rfl ?_
        refine z_iload (q := 101) (i := 7) dX8_puts_99 rfl rfl ?_
        refine z_iconst (q := 102) (v := nI 0) dX8_puts_101 (by rfl) rfl ?_
        refine z_iaddE (q := 103) dX8_puts_102 (nI_add _ _) rfl ?_
        refine z_iload_n (q := 104) dX8_puts_103 rfl rfl rfl ?_
        refine z_iast (q := 105) _ (by with_reducible assumption) (rfl) (by omega) (by decide) dX8_puts_104 rfl ?_
        refine z_aload_n (q := 106) dX8_puts_105 rfl rfl rfl ?_
        refine z_getR (q := 109) 8 0 1 6 rfl (by decide) rfl rfl rfl (by with_reducible assumption) (by with_reducible assumption) dX8_puts_106 rfl ?_
        refine z_iload (q := 111) (i := 7) dX8_puts_109 rfl rfl ?_
        refine z_iconst (q := 112) (v := nI 1) dX8_puts_111 (by rfl) rfl ?_
        refine z_iaddE (q := 113) dX8_puts_112 (nI_add _ _) rfl ?_
        refine z_iload_n (q := 114) dX8_puts_113 rfl rfl rfl ?_
        refine z_iast (q := 115) _ (by with_reducible assumption) (rfl) (by omega) (by decide) dX8_puts_114 rfl ?_
        refine z_aload_n (q := 116) dX8_puts_115 rfl rfl rfl ?_
        refine z_getR (q := 119) 8 0 1 6 rfl (by decide) rfl rfl rfl (by with_reducible assumption) (by with_reducible assumption) dX8_puts_116 rfl ?_
        refine z_iload (q := 121) (i := 7) dX8_puts_119 rfl rfl ?_
        refine z_iconst (q := 122) (v := nI 2) dX8_puts_121 (by rfl) rfl ?_
        refine z_iaddE (q := 123) dX8_puts_122 (nI_add _ _) rfl ?_
        refine z_iload_n (q := 124) dX8_puts_123 rfl rfl rfl ?_
        refine z_iast (q := 125) _ (by with_reducible assumption) (rfl) (by omega) (by decide) dX8_puts_124 rfl ?_
        refine z_aload_n (q := 126) dX8_puts_125 rfl rfl rfl ?_
        refine z_getR (q := 129) 8 0 1 6 rfl (by decide) rfl rfl rfl (by with_reducible assumption) (by with_reducible assumption) dX8_puts_126 rfl ?_
        refine z_iload (q := 131) (i := 7) dX8_puts_129 rfl rfl ?_
        refine z_iconst (q := 132) (v := nI 3) dX8_puts_131 (by rfl) rfl ?_
        refine z_iaddE (q := 133) dX8_puts_132 (nI_add _ _) rfl ?_
        refine z_iload (q := 135) (i := 4) dX8_puts_133 rfl rfl ?_
        refine z_iast (q := 136) _ (by with_reducible assumption) (rfl) (by omega) (by decide) dX8_puts_135 rfl ?_
        refine z_aload_n (q := 137) dX8_puts_136 rfl rfl rfl ?_
        refine z_getR (q := 140) 8 0 1 6 rfl (by decide) rfl rfl rfl (by with_reducible assumption) (by with_reducible assumption) dX8_puts_137 rfl ?_
        refine z_iload (q := 142) (i := 7) dX8_puts_140 rfl rfl ?_
        refine z_iconst (q := 143) (v := nI 4) dX8_puts_142 (by rfl) rfl ?_
        refine z_iaddE (q := 144) dX8_puts_143 (nI_add _ _) rfl ?_
        refine z_iload (q := 146) (i := 5) dX8_puts_144 rfl rfl ?_
        refine z_iast (q := 147) _ (by with_reducible assumption) (rfl) (by omega) (by decide) dX8_puts_146 rfl ?_
        refine z_aload_n (q := 148) dX8_puts_147 rfl rfl rfl ?_
        refine z_getR (q := 151) 8 0 1 6 rfl (by decide) rfl rfl rfl (by with_reducible assumption) (by with_reducible assumption) dX8_puts_148 rfl ?_
        refine z_iconst (q := 152) (v := nI 2) dX8_puts_151 (by rfl) rfl ?_
        refine z_dup2 (q := 153) dX8_puts_152 rfl rfl rfl ?_
        refine z_iald (q := 154) _ (by with_reducible assumption) (rfl) (by omega) (by decide) dX8_puts_153 rfl ?_
        refine z_iconst (q := 155) (v := nI 1) dX8_puts_154 (by rfl) rfl ?_
        refine z_iadd (q := 156) dX8_puts_155 rfl ?_
        refine z_iast (q := 157) _ (by with_reducible assumption) (rfl) (by omega) (by decide) dX8_puts_156 rfl ?_
        refine z_aload_n (q := 158) dX8_puts_157 rfl rfl rfl ?_
        refine z_getR (q := 161) 8 0 1 6 rfl (by decide) rfl rfl rfl (by with_reducible assumption) (by with_reducible assumption) dX8_puts_158 rfl ?_
        refine z_iconst (q := 162) (v := nI 5) dX8_puts_161 (by rfl) rfl ?_
        refine z_dup2 (q := 163) dX8_puts_162 rfl rfl rfl ?_
        refine z_iald (q := 164) _ (by with_reducible assumption) (rfl) (by omega) (by decide) dX8_puts_163 rfl ?_
        refine z_iload (q := 166) (i := 4) dX8_puts_164 rfl rfl ?_
        refine z_iload (q := 168) (i := 5) dX8_puts_166 rfl rfl ?_
        refine z_imul (q := 169) dX8_puts_168 rfl ?_
        refine z_iadd (q := 170) dX8_puts_169 rfl ?_
        refine z_iast (q := 171) _ (by with_reducible assumption) (rfl) (by omega) (by decide) dX8_puts_170 rfl ?_
        refine z_vret rfl dX8_puts_171 (Nat.zero_le _) (Nat.zero_le _) ⟨rfl, rfl, rfl, rfl, ?_, fun q h1 => ?_⟩
        · rw [zw_upd, zw_upd, zw_upd, zw_upd, zw_upd, zw_upd, zw_upd, e1, putG, ← hpp]
          rfl
        · rw [zw_row _ _ h1, zw_row _ _ h1, zw_row _ _ h1, zw_row _ _ h1, zw_row _ _ h1, zw_row _ _ h1, zw_row _ _ h1]
          exact e2 q h1
      · intro j hj ih c hc I4 e1 e2
        obtain ⟨c', rfl⟩ : ∃ c', c = c' + 1 := ⟨c - 1, by omega⟩
        refine z_iload (q := 52) (i := 7) dX8_puts_50 rfl rfl ?_
        refine z_sipush (q := 55) (v := nI 321) dX8_puts_52 (by rfl) rfl ?_
        refine z_iconst (q := 56) (v := nI 5) dX8_puts_55 (by rfl) rfl ?_
        refine z_iload (q := 58) (i := 6) dX8_puts_56 rfl rfl ?_
        refine z_imulE (q := 59) dX8_puts_58 (pk_mul _ _) rfl ?_
        refine z_iaddE (q := 60) dX8_puts_59 (nI_add _ _) rfl ?_
        refine z_icmpn_lt (rfl) (rfl) (by omega) (by omega) (tgt := 85) (q := 63) dX8_puts_60 (by decide) rfl (fun hc => absurd hc (by omega)) (fun _ => ?_)
        refine z_aload_n (q := 64) dX8_puts_63 rfl rfl rfl ?_
        refine z_getR (q := 67) 8 0 1 6 rfl (by decide) rfl rfl rfl (by with_reducible assumption) (by with_reducible assumption) dX8_puts_64 rfl ?_
        refine z_iload (q := 69) (i := 7) dX8_puts_67 rfl rfl ?_
        refine z_iconst (q := 70) (v := nI 5) dX8_puts_69 (by rfl) rfl ?_
        refine z_iaddE (q := 71) dX8_puts_70 (nI_add _ _) rfl ?_
        refine z_aload_n (q := 72) dX8_puts_71 rfl rfl rfl ?_
        refine z_getR (q := 75) 8 0 1 6 rfl (by decide) rfl rfl rfl (by with_reducible assumption) (by with_reducible assumption) dX8_puts_72 rfl ?_
        refine z_iload (q := 77) (i := 7) dX8_puts_75 rfl rfl ?_
        refine z_iald (q := 78) _ (by with_reducible assumption) (rfl) (by omega) (by decide) dX8_puts_77 rfl ?_
        refine z_iast (q := 79) _ (by with_reducible assumption) (rfl) (by omega) (by decide) dX8_puts_78 rfl ?_
        refine z_iinc (q := 82) dX8_puts_79 rfl (z_m1 c') (by decide) rfl ?_
        refine z_goto (q := 50) dX8_puts_82 (by decide) ?_
        refine ih c' (by omega) _ ?_ (fun q h1 => by rw [zw_row _ _ h1]; exact e2 q h1)
        rw [zw_upd, e1]
        funext k
        by_cases hk : k = c' + 1 + 5
        · rw [hk, upd_s]
          unfold insP
          rw [if_neg (by omega), if_pos (by omega), show c' + 1 + 5 - 5 = c' + 1 by omega]
        · rw [upd_n _ _ hk]
          unfold insP
          by_cases h : 326 + 5 * np ≤ k + j ∧ k < 326 + 5 * np
          · rw [if_pos h, if_pos (by omega)]
          · rw [if_neg h, if_neg (by omega)]
    refine z_sipush (q := 37) (v := nI 321) dX8_puts_34 (by rfl) rfl ?_
    refine z_iconst (q := 38) (v := nI 5) dX8_puts_37 (by rfl) rfl ?_
    refine z_aload_n (q := 39) dX8_puts_38 rfl rfl rfl ?_
    refine z_getR (q := 42) 8 0 1 6 rfl (by decide) rfl rfl rfl (by with_reducible assumption) (by with_reducible assumption) dX8_puts_39 rfl ?_
    refine z_iconst (q := 43) (v := nI 2) dX8_puts_42 (by rfl) rfl ?_
    refine z_ialdV (q := 44) _ (by with_reducible assumption) (rfl) (by omega) (by decide) (h2) dX8_puts_43 rfl ?_
    refine z_imulE (q := 45) dX8_puts_44 (pk_mul _ _) rfl ?_
    refine z_iaddE (q := 46) dX8_puts_45 (nI_add _ _) rfl ?_
    refine z_iconst (q := 47) (v := nI 1) dX8_puts_46 (by rfl) rfl ?_
    refine z_isubE (q := 48) dX8_puts_47 (pk_sub (by omega)) rfl ?_
    refine z_istore (q := 50) dX8_puts_48 (by decide) rfl ?_
    refine loop 0 (Nat.zero_le _) (321 + 5 * np - 1) (by omega) I ?_ (fun _ _ => rfl)
    funext k
    unfold insP
    rw [if_neg (by omega)]
  refine z_iconst (q := 1) (v := nI 0) dX8_puts_0 (by rfl) rfl ?_
  refine z_istore (q := 3) dX8_puts_1 (by decide) rfl ?_
  have loop : ∀ d k, k + d = np → posF (I (m + 1)) t d k = posF (I (m + 1)) t np 0 → z_X G muX8_puts (1, 0, 0) (z_rel none n T (fun I' R' => R' = R ∧ z_row I (m + 1) (putG (I (m + 1)) np t kd wh sp mu) I')) n T I R 0 0 3 [(0, .ref m), (1, .int t), (2, .int kd), (3, .int wh), (4, .int sp), (5, .int mu), (6, .int (nI k))] [] := by
    intro d
    induction d with
    | zero =>
      intro k hk he
      refine z_iload (q := 5) (i := 6) dX8_puts_3 rfl rfl ?_
      refine z_aload_n (q := 6) dX8_puts_5 rfl rfl rfl ?_
      refine z_getR (q := 9) 8 0 1 6 rfl (by decide) rfl rfl rfl (by with_reducible assumption) (by with_reducible assumption) dX8_puts_6 rfl ?_
      refine z_iconst (q := 10) (v := nI 2) dX8_puts_9 (by rfl) rfl ?_
      refine z_ialdV (q := 11) _ (by with_reducible assumption) (rfl) (by omega) (by decide) (h2) dX8_puts_10 rfl ?_
      refine z_icmpn_ge (rfl) (rfl) (by omega) (by omega) (tgt := 34) (q := 14) dX8_puts_11 (by decide) rfl (fun _ => ?_) (fun hc => absurd hc (by omega))
      exact tail k (by omega) he
    | succ d ih =>
      intro k hk he
      rw [posF] at he
      refine z_iload (q := 5) (i := 6) dX8_puts_3 rfl rfl ?_
      refine z_aload_n (q := 6) dX8_puts_5 rfl rfl rfl ?_
      refine z_getR (q := 9) 8 0 1 6 rfl (by decide) rfl rfl rfl (by with_reducible assumption) (by with_reducible assumption) dX8_puts_6 rfl ?_
      refine z_iconst (q := 10) (v := nI 2) dX8_puts_9 (by rfl) rfl ?_
      refine z_ialdV (q := 11) _ (by with_reducible assumption) (rfl) (by omega) (by decide) (h2) dX8_puts_10 rfl ?_
      refine z_icmpn_ge (rfl) (rfl) (by omega) (by omega) (tgt := 34) (q := 14) dX8_puts_11 (by decide) rfl (fun hc => absurd hc (by omega)) (fun _ => ?_)
      refine z_aload_n (q := 15) dX8_puts_14 rfl rfl rfl ?_
      refine z_getR (q := 18) 8 0 1 6 rfl (by decide) rfl rfl rfl (by with_reducible assumption) (by with_reducible assumption) dX8_puts_15 rfl ?_
      refine z_iload (q := 20) (i := 6) dX8_puts_18 rfl rfl ?_
      refine z_iconst (q := 21) (v := nI 0) dX8_puts_20 (by rfl) rfl ?_
      refine z_invS (q := 24) (c_X8_entry G (m + 1) k 0 hTs (by omega)) gX8_puts_X8_entry rfl hy_X8_entry rfl rfl rfl rfl (Nat.le_of_ble_eq_true rfl) ⟨Nat.zero_le _, Nat.zero_le _⟩ dX8_puts_21 rfl (z_rv ?_)
      refine z_iload_n (q := 25) dX8_puts_24 rfl rfl rfl ?_
      refine z_icmp_gt (tgt := 34) (q := 28) dX8_puts_25 (by decide) rfl (fun hc => ?_) (fun hc => ?_)
      · rw [if_pos hc] at he
        exact tail k (by omega) he
      · rw [if_neg hc] at he
        refine z_iinc (q := 31) dX8_puts_28 rfl (nI_add _ 1) (by decide) rfl ?_
        refine z_goto (q := 3) dX8_puts_31 (by decide) ?_
        exact ih (k + 1) (by omega) he
  exact loop np 0 (by omega) rfl
def soundQ (g : Nat → Int32) (x t k e : Int32) : Int32 × Option (Nat → Int32) := if t < g 3 then (-2, none) else if gN g 2 = 16 then (-3, none) else if 1000000000 < g 5 + k * e then (-3, none) else (putG g (gN g 2) t (nI 0) x k e 2, some (putG g (gN g 2) t (nI 0) x k e))
def sp_sound (g : Nat → Int32) (x t k e : Int32) : Int32 × Option (Nat → Int32) := if x < 0 ∨ g 0 ≤ x then (-1, none) else if t < nI 0 ∨ nI 5000 < t then (-1, none) else if k < nI 1 ∨ nI 20 < k then (-1, none) else if e < nI 1 ∨ 1000000 < e then (-1, none) else soundQ g x t k e
set_option maxRecDepth 100000 in
set_option maxHeartbeats 4000000 in
theorem c_X8_sound (G : zG) {n : Nat} {T : zTT} {I : zII} {R : zRR} (m nr nd np st pc : Nat) (x t k e : Int32) (hM : z_Mod T R m) (hI : INV nr nd np st (I (m + 1))) (hpc : I m 3 = nI pc) (h4 : pc ≤ 4) : Ct G yX8_sound wsX8_sound (2, 0, 0) [.ref m, .int x, .int t, .int k, .int e] n T I R (z_rel (some (.int (sp_sound (I (m + 1)) x t k e).1)) n T (fun I' R' => R' = R ∧ z_upto m pc I I' (sp_sound (I (m + 1)) x t k e).2)) := by
  refine Ct.ofX (M := muX8_sound) (ls := [(0, .ref m), (1, .int x), (2, .int t), (3, .int k), (4, .int e)]) (by decide +kernel) rfl (by decide) rfl rfl (Nat.le_of_ble_eq_true rfl) ?_
  have hTm := hM.1
  have hnp := hI.2.2.1.2
  have h2 := hI.2.2.1.1
  obtain ⟨-, ⟨hTs, hRs⟩, -⟩ := id hM
  have hgp : gN (I (m + 1)) 2 = np := gN_of hI.2.2.1.1 (by omega)
  have bad : sp_sound (I (m + 1)) x t k e = (-1, none) → z_X G muX8_sound (2, 0, 0) (z_rel (some (.int (sp_sound (I (m + 1)) x t k e).1)) n T (fun I' R' => R' = R ∧ z_upto m pc I I' (sp_sound (I (m + 1)) x t k e).2)) n T I R 0 0 40 [(0, .ref m), (1, .int x), (2, .int t), (3, .int k), (4, .int e)] [] := by
    intro hb
    rw [hb]
    refine z_iconst (q := 41) (v := (-1)) dX8_sound_40 (by rfl) rfl ?_
    exact z_iret rfl dX8_sound_41 (Nat.zero_le _) (Nat.zero_le _) ⟨rfl, rfl, rfl, rfl, ⟨rfl, rfl, fun _ _ _ _ => rfl⟩⟩
  refine z_aload_n (q := 1) dX8_sound_0 rfl rfl rfl ?_
  refine z_iload_n (q := 2) dX8_sound_1 rfl rfl rfl ?_
  refine z_invV (q := 5) (c_X8_isRoom G m x hM) (by with_reducible assumption) rfl gX8_sound_X8_isRoom rfl hy_X8_isRoom rfl rfl rfl rfl (Nat.le_of_ble_eq_true rfl) ⟨Nat.zero_le _, Nat.zero_le _⟩ dX8_sound_2 rfl (z_rv ?_)
  by_cases hv : x < 0 ∨ I (m + 1) 0 ≤ x
  · rw [if_pos hv]
    refine z_if_eq (tgt := 40) (q := 8) dX8_sound_5 (by decide) rfl (fun _ => ?_) (fun hc => False.elim (hc rfl))
    exact bad (by rw [sp_sound, if_pos hv])
  rw [if_neg hv]
  refine z_if_eq (tgt := 40) (q := 8) dX8_sound_5 (by decide) rfl (fun hc => False.elim (absurd hc (by decide))) (fun _ => ?_)
  refine z_iload_n (q := 9) dX8_sound_8 rfl rfl rfl ?_
  refine z_iconst (q := 10) (v := nI 0) dX8_sound_9 (by rfl) rfl ?_
  refine z_sipush (q := 13) (v := nI 5000) dX8_sound_10 (by rfl) rfl ?_
  refine z_invS (q := 16) (c_X8_in G t (nI 0) (nI 5000)) gX8_sound_X8_in rfl hy_X8_in rfl rfl rfl rfl (Nat.le_of_ble_eq_true rfl) ⟨Nat.zero_le _, Nat.zero_le _⟩ dX8_sound_13 rfl (z_rv ?_)
  by_cases ht : t < nI 0 ∨ nI 5000 < t
  · rw [if_pos ht]
    refine z_if_eq (tgt := 40) (q := 19) dX8_sound_16 (by decide) rfl (fun _ => ?_) (fun hc => False.elim (hc rfl))
    exact bad (by rw [sp_sound, if_neg hv, if_pos ht])
  rw [if_neg ht]
  refine z_if_eq (tgt := 40) (q := 19) dX8_sound_16 (by decide) rfl (fun hc => False.elim (absurd hc (by decide))) (fun _ => ?_)
  refine z_iload_n (q := 20) dX8_sound_19 rfl rfl rfl ?_
  refine z_iconst (q := 21) (v := nI 1) dX8_sound_20 (by rfl) rfl ?_
  refine z_bipush (q := 23) (v := nI 20) dX8_sound_21 (by rfl) rfl ?_
  refine z_invS (q := 26) (c_X8_in G k (nI 1) (nI 20)) gX8_sound_X8_in rfl hy_X8_in rfl rfl rfl rfl (Nat.le_of_ble_eq_true rfl) ⟨Nat.zero_le _, Nat.zero_le _⟩ dX8_sound_23 rfl (z_rv ?_)
  by_cases hk : k < nI 1 ∨ nI 20 < k
  · rw [if_pos hk]
    refine z_if_eq (tgt := 40) (q := 29) dX8_sound_26 (by decide) rfl (fun _ => ?_) (fun hc => False.elim (hc rfl))
    exact bad (by rw [sp_sound, if_neg hv, if_neg ht, if_pos hk])
  rw [if_neg hk]
  refine z_if_eq (tgt := 40) (q := 29) dX8_sound_26 (by decide) rfl (fun hc => False.elim (absurd hc (by decide))) (fun _ => ?_)
  refine z_iload (q := 31) (i := 4) dX8_sound_29 rfl rfl ?_
  refine z_iconst (q := 32) (v := nI 1) dX8_sound_31 (by rfl) rfl ?_
  refine z_ldc (q := 34) (i := 1) (v := 1000000) rfl dX8_sound_32 rfl ?_
  refine z_invS (q := 37) (c_X8_in G e (nI 1) 1000000) gX8_sound_X8_in rfl hy_X8_in rfl rfl rfl rfl (Nat.le_of_ble_eq_true rfl) ⟨Nat.zero_le _, Nat.zero_le _⟩ dX8_sound_34 rfl (z_rv ?_)
  by_cases he : e < nI 1 ∨ 1000000 < e
  · rw [if_pos he]
    refine z_if_ne (tgt := 42) (q := 40) dX8_sound_37 (by decide) rfl (fun hc => False.elim (hc rfl)) (fun _ => ?_)
    exact bad (by rw [sp_sound, if_neg hv, if_neg ht, if_neg hk, if_pos he])
  rw [if_neg he]
  refine z_if_ne (tgt := 42) (q := 40) dX8_sound_37 (by decide) rfl (fun _ => ?_) (fun hc => False.elim (absurd hc (by decide)))
  have e0 : sp_sound (I (m + 1)) x t k e = soundQ (I (m + 1)) x t k e := by rw [sp_sound, if_neg hv, if_neg ht, if_neg hk, if_neg he]
  have full : sp_sound (I (m + 1)) x t k e = (-3, none) → z_X G muX8_sound (2, 0, 0) (z_rel (some (.int (sp_sound (I (m + 1)) x t k e).1)) n T (fun I' R' => R' = R ∧ z_upto m pc I I' (sp_sound (I (m + 1)) x t k e).2)) n T I R 0 0 82 [(0, .ref m), (1, .int x), (2, .int t), (3, .int k), (4, .int e)] [] := by
    intro hb
    rw [hb]
    refine z_bipush (q := 84) (v := (-3)) dX8_sound_82 (by rfl) rfl ?_
    exact z_iret rfl dX8_sound_84 (Nat.zero_le _) (Nat.zero_le _) ⟨rfl, rfl, rfl, rfl, ⟨rfl, rfl, fun _ _ _ _ => rfl⟩⟩
  rw [e0] at full ⊢
  refine z_iload_n (q := 43) dX8_sound_42 rfl rfl rfl ?_
  refine z_aload_n (q := 44) dX8_sound_43 rfl rfl rfl ?_
  refine z_getR (q := 47) 8 0 2 25 rfl (by decide) rfl rfl rfl (by with_reducible assumption) (by with_reducible assumption) dX8_sound_44 rfl ?_
  refine z_iconst (q := 48) (v := nI 3) dX8_sound_47 (by rfl) rfl ?_
  refine z_iald (q := 49) _ (by with_reducible assumption) (rfl) (by omega) (by decide) dX8_sound_48 rfl ?_
  refine z_icmp_ge (tgt := 55) (q := 52) dX8_sound_49 (by decide) rfl (fun h49 => ?_) (fun h49 => ?_)
  · refine z_aload_n (q := 56) dX8_sound_55 rfl rfl rfl ?_
    refine z_getR (q := 59) 8 0 2 25 rfl (by decide) rfl rfl rfl (by with_reducible assumption) (by with_reducible assumption) dX8_sound_56 rfl ?_
    refine z_iconst (q := 60) (v := nI 2) dX8_sound_59 (by rfl) rfl ?_
    refine z_ialdV (q := 61) _ (by with_reducible assumption) (rfl) (by omega) (by decide) (h2) dX8_sound_60 rfl ?_
    refine z_bipush (q := 63) (v := nI 16) dX8_sound_61 (by rfl) rfl ?_
    refine z_icmpn_eq (rfl) (rfl) (by omega) (by omega) (tgt := 82) (q := 66) dX8_sound_63 (by decide) rfl (fun h63 => ?_) (fun h63 => ?_)
    · exact full (by rw [soundQ, if_neg (Int32.not_lt.mpr h49), if_pos (by rw [hgp]; exact h63)])
    · refine z_aload_n (q := 67) dX8_sound_66 rfl rfl rfl ?_
      refine z_getR (q := 70) 8 0 2 25 rfl (by decide) rfl rfl rfl (by with_reducible assumption) (by with_reducible assumption) dX8_sound_67 rfl ?_
      refine z_iconst (q := 71) (v := nI 5) dX8_sound_70 (by rfl) rfl ?_
      refine z_iald (q := 72) _ (by with_reducible assumption) (rfl) (by omega) (by decide) dX8_sound_71 rfl ?_
      refine z_iload_n (q := 73) dX8_sound_72 rfl rfl rfl ?_
      refine z_iload (q := 75) (i := 4) dX8_sound_73 rfl rfl ?_
      refine z_imul (q := 76) dX8_sound_75 rfl ?_
      refine z_iadd (q := 77) dX8_sound_76 rfl ?_
      refine z_ldc (q := 79) (i := 3) (v := 1000000000) rfl dX8_sound_77 rfl ?_
      refine z_icmp_le (tgt := 85) (q := 82) dX8_sound_79 (by decide) rfl (fun h79 => ?_) (fun h79 => ?_)
      · rw [soundQ, if_neg (Int32.not_lt.mpr h49), if_neg (by rw [hgp]; exact h63), if_neg (Int32.not_lt.mpr h79), hgp]
        refine z_aload_n (q := 86) dX8_sound_85 rfl rfl rfl ?_
        refine z_invV (q := 89) (c_X8_changes G m pc hM hpc h4) (by with_reducible assumption) rfl gX8_sound_X8_changes rfl hy_X8_changes rfl rfl rfl rfl (Nat.le_of_ble_eq_true rfl) ⟨Nat.zero_le _, Nat.zero_le _⟩ dX8_sound_86 rfl (z_rnR fun I3 R3 hZ3 => ?_)
        obtain ⟨rfl, h3⟩ := hZ3
        have es : I3 (m + 1) = I (m + 1) := h3.2.2 _ (by omega) (by omega)
        refine z_aload_n (q := 90) dX8_sound_89 rfl rfl rfl ?_
        refine z_iload_n (q := 91) dX8_sound_90 rfl rfl rfl ?_
        refine z_iconst (q := 92) (v := nI 0) dX8_sound_91 (by rfl) rfl ?_
        refine z_iload_n (q := 93) dX8_sound_92 rfl rfl rfl ?_
        refine z_iload_n (q := 94) dX8_sound_93 rfl rfl rfl ?_
        refine z_iload (q := 96) (i := 4) dX8_sound_94 rfl rfl ?_
        refine z_invV (q := 99) (c_X8_puts G m np t (nI 0) x k e hM (by rw [es]; exact h2) (by omega)) (by with_reducible assumption) rfl gX8_sound_X8_puts rfl hy_X8_puts rfl rfl rfl rfl (Nat.le_of_ble_eq_true rfl) ⟨Nat.zero_le _, Nat.zero_le _⟩ dX8_sound_96 rfl (z_rnR fun I5 R5 hZ5 => ?_)
        obtain ⟨rfl, h5⟩ := hZ5
        rw [es] at h5
        refine z_aload_n (q := 100) dX8_sound_99 rfl rfl rfl ?_
        refine z_getR (q := 103) 8 0 2 25 rfl (by decide) rfl rfl rfl (by with_reducible assumption) (by with_reducible assumption) dX8_sound_100 rfl ?_
        refine z_iconst (q := 104) (v := nI 2) dX8_sound_103 (by rfl) rfl ?_
        refine z_iald (q := 105) _ (by with_reducible assumption) (rfl) (by omega) (by decide) dX8_sound_104 rfl ?_
        exact z_iret rfl dX8_sound_105 (Nat.zero_le _) (Nat.zero_le _) ⟨by rw [h5.1], rfl, rfl, rfl, z_upG h3 h5.1 (fun q h1 _ => h5.2 q h1)⟩
      · exact full (by rw [soundQ, if_neg (Int32.not_lt.mpr h49), if_neg (by rw [hgp]; exact h63), if_pos (Int32.not_le.mp h79)])
  · rw [soundQ, if_pos (Int32.not_le.mp h49)]
    refine z_bipush (q := 54) (v := (-2)) dX8_sound_52 (by rfl) rfl ?_
    exact z_iret rfl dX8_sound_54 (Nat.zero_le _) (Nat.zero_le _) ⟨rfl, rfl, rfl, rfl, rfl, rfl, fun _ _ _ _ => rfl⟩
def targQ (g : Nat → Int32) (x t a : Int32) : Int32 × Option (Nat → Int32) := if t < g 3 then (-2, none) else if gN g 2 = 16 then (-3, none) else (putG g (gN g 2) t (nI 1) x (nI 0) a 2, some (putG g (gN g 2) t (nI 1) x (nI 0) a))
def sp_planDoor (g : Nat → Int32) (x t a : Int32) : Int32 × Option (Nat → Int32) := if x < 0 ∨ g 1 ≤ x then (-1, none) else if t < nI 0 ∨ nI 5000 < t then (-1, none) else if a < nI 0 ∨ nI 10 < a then (-1, none) else targQ g x t a
set_option maxRecDepth 100000 in
set_option maxHeartbeats 4000000 in
theorem c_X8_planDoor (G : zG) {n : Nat} {T : zTT} {I : zII} {R : zRR} (m nr nd np st pc : Nat) (x t a : Int32) (hM : z_Mod T R m) (hI : INV nr nd np st (I (m + 1))) (hpc : I m 3 = nI pc) (h4 : pc ≤ 4) : Ct G yX8_planDoor wsX8_planDoor (2, 0, 0) [.ref m, .int x, .int t, .int a] n T I R (z_rel (some (.int (sp_planDoor (I (m + 1)) x t a).1)) n T (fun I' R' => R' = R ∧ z_upto m pc I I' (sp_planDoor (I (m + 1)) x t a).2)) := by
  refine Ct.ofX (M := muX8_planDoor) (ls := [(0, .ref m), (1, .int x), (2, .int t), (3, .int a)]) (by decide +kernel) rfl (by decide) rfl rfl (Nat.le_of_ble_eq_true rfl) ?_
  have hTm := hM.1
  have hnp := hI.2.2.1.2
  have h2 := hI.2.2.1.1
  obtain ⟨-, ⟨hTs, hRs⟩, -⟩ := id hM
  have hgp : gN (I (m + 1)) 2 = np := gN_of hI.2.2.1.1 (by omega)
  have bad : sp_planDoor (I (m + 1)) x t a = (-1, none) → z_X G muX8_planDoor (2, 0, 0) (z_rel (some (.int (sp_planDoor (I (m + 1)) x t a).1)) n T (fun I' R' => R' = R ∧ z_upto m pc I I' (sp_planDoor (I (m + 1)) x t a).2)) n T I R 0 0 29 [(0, .ref m), (1, .int x), (2, .int t), (3, .int a)] [] := by
    intro hb
    rw [hb]
    refine z_iconst (q := 30) (v := (-1)) dX8_planDoor_29 (by rfl) rfl ?_
    exact z_iret rfl dX8_planDoor_30 (Nat.zero_le _) (Nat.zero_le _) ⟨rfl, rfl, rfl, rfl, ⟨rfl, rfl, fun _ _ _ _ => rfl⟩⟩
  refine z_aload_n (q := 1) dX8_planDoor_0 rfl rfl rfl ?_
  refine z_iload_n (q := 2) dX8_planDoor_1 rfl rfl rfl ?_
  refine z_invV (q := 5) (c_X8_isDoor G m x hM) (by with_reducible assumption) rfl gX8_planDoor_X8_isDoor rfl hy_X8_isDoor rfl rfl rfl rfl (Nat.le_of_ble_eq_true rfl) ⟨Nat.zero_le _, Nat.zero_le _⟩ dX8_planDoor_2 rfl (z_rv ?_)
  by_cases hv : x < 0 ∨ I (m + 1) 1 ≤ x
  · rw [if_pos hv]
    refine z_if_eq (tgt := 29) (q := 8) dX8_planDoor_5 (by decide) rfl (fun _ => ?_) (fun hc => False.elim (hc rfl))
    exact bad (by rw [sp_planDoor, if_pos hv])
  rw [if_neg hv]
  refine z_if_eq (tgt := 29) (q := 8) dX8_planDoor_5 (by decide) rfl (fun hc => False.elim (absurd hc (by decide))) (fun _ => ?_)
  refine z_iload_n (q := 9) dX8_planDoor_8 rfl rfl rfl ?_
  refine z_iconst (q := 10) (v := nI 0) dX8_planDoor_9 (by rfl) rfl ?_
  refine z_sipush (q := 13) (v := nI 5000) dX8_planDoor_10 (by rfl) rfl ?_
  refine z_invS (q := 16) (c_X8_in G t (nI 0) (nI 5000)) gX8_planDoor_X8_in rfl hy_X8_in rfl rfl rfl rfl (Nat.le_of_ble_eq_true rfl) ⟨Nat.zero_le _, Nat.zero_le _⟩ dX8_planDoor_13 rfl (z_rv ?_)
  by_cases ht : t < nI 0 ∨ nI 5000 < t
  · rw [if_pos ht]
    refine z_if_eq (tgt := 29) (q := 19) dX8_planDoor_16 (by decide) rfl (fun _ => ?_) (fun hc => False.elim (hc rfl))
    exact bad (by rw [sp_planDoor, if_neg hv, if_pos ht])
  rw [if_neg ht]
  refine z_if_eq (tgt := 29) (q := 19) dX8_planDoor_16 (by decide) rfl (fun hc => False.elim (absurd hc (by decide))) (fun _ => ?_)
  refine z_iload_n (q := 20) dX8_planDoor_19 rfl rfl rfl ?_
  refine z_iconst (q := 21) (v := nI 0) dX8_planDoor_20 (by rfl) rfl ?_
  refine z_bipush (q := 23) (v := nI 10) dX8_planDoor_21 (by rfl) rfl ?_
  refine z_invS (q := 26) (c_X8_in G a (nI 0) (nI 10)) gX8_planDoor_X8_in rfl hy_X8_in rfl rfl rfl rfl (Nat.le_of_ble_eq_true rfl) ⟨Nat.zero_le _, Nat.zero_le _⟩ dX8_planDoor_23 rfl (z_rv ?_)
  by_cases ha : a < nI 0 ∨ nI 10 < a
  · rw [if_pos ha]
    refine z_if_ne (tgt := 31) (q := 29) dX8_planDoor_26 (by decide) rfl (fun hc => False.elim (hc rfl)) (fun _ => ?_)
    exact bad (by rw [sp_planDoor, if_neg hv, if_neg ht, if_pos ha])
  rw [if_neg ha]
  refine z_if_ne (tgt := 31) (q := 29) dX8_planDoor_26 (by decide) rfl (fun _ => ?_) (fun hc => False.elim (absurd hc (by decide)))
  have e0 : sp_planDoor (I (m + 1)) x t a = targQ (I (m + 1)) x t a := by rw [sp_planDoor, if_neg hv, if_neg ht, if_neg ha]
  rw [e0]
  refine z_iload_n (q := 32) dX8_planDoor_31 rfl rfl rfl ?_
  refine z_aload_n (q := 33) dX8_planDoor_32 rfl rfl rfl ?_
  refine z_getR (q := 36) 8 0 1 23 rfl (by decide) rfl rfl rfl (by with_reducible assumption) (by with_reducible assumption) dX8_planDoor_33 rfl ?_
  refine z_iconst (q := 37) (v := nI 3) dX8_planDoor_36 (by rfl) rfl ?_
  refine z_iald (q := 38) _ (by with_reducible assumption) (rfl) (by omega) (by decide) dX8_planDoor_37 rfl ?_
  refine z_icmp_ge (tgt := 44) (q := 41) dX8_planDoor_38 (by decide) rfl (fun h49 => ?_) (fun h49 => ?_)
  · refine z_aload_n (q := 45) dX8_planDoor_44 rfl rfl rfl ?_
    refine z_getR (q := 48) 8 0 1 23 rfl (by decide) rfl rfl rfl (by with_reducible assumption) (by with_reducible assumption) dX8_planDoor_45 rfl ?_
    refine z_iconst (q := 49) (v := nI 2) dX8_planDoor_48 (by rfl) rfl ?_
    refine z_ialdV (q := 50) _ (by with_reducible assumption) (rfl) (by omega) (by decide) (h2) dX8_planDoor_49 rfl ?_
    refine z_bipush (q := 52) (v := nI 16) dX8_planDoor_50 (by rfl) rfl ?_
    refine z_icmpn_ne (rfl) (rfl) (by omega) (by omega) (tgt := 58) (q := 55) dX8_planDoor_52 (by decide) rfl (fun h63 => ?_) (fun h63 => ?_)
    · rw [targQ, if_neg (Int32.not_lt.mpr h49), if_neg (by rw [hgp]; exact h63), hgp]
      refine z_aload_n (q := 59) dX8_planDoor_58 rfl rfl rfl ?_
      refine z_invV (q := 62) (c_X8_changes G m pc hM hpc h4) (by with_reducible assumption) rfl gX8_planDoor_X8_changes rfl hy_X8_changes rfl rfl rfl rfl (Nat.le_of_ble_eq_true rfl) ⟨Nat.zero_le _, Nat.zero_le _⟩ dX8_planDoor_59 rfl (z_rnR fun I3 R3 hZ3 => ?_)
      obtain ⟨rfl, h3⟩ := hZ3
      have es : I3 (m + 1) = I (m + 1) := h3.2.2 _ (by omega) (by omega)
      refine z_aload_n (q := 63) dX8_planDoor_62 rfl rfl rfl ?_
      refine z_iload_n (q := 64) dX8_planDoor_63 rfl rfl rfl ?_
      refine z_iconst (q := 65) (v := nI 1) dX8_planDoor_64 (by rfl) rfl ?_
      refine z_iload_n (q := 66) dX8_planDoor_65 rfl rfl rfl ?_
      refine z_iconst (q := 67) (v := nI 0) dX8_planDoor_66 (by rfl) rfl ?_
      refine z_iload_n (q := 68) dX8_planDoor_67 rfl rfl rfl ?_
      refine z_invV (q := 71) (c_X8_puts G m np t (nI 1) x (nI 0) a hM (by rw [es]; exact h2) (by omega)) (by with_reducible assumption) rfl gX8_planDoor_X8_puts rfl hy_X8_puts rfl rfl rfl rfl (Nat.le_of_ble_eq_true rfl) ⟨Nat.zero_le _, Nat.zero_le _⟩ dX8_planDoor_68 rfl (z_rnR fun I5 R5 hZ5 => ?_)
      obtain ⟨rfl, h5⟩ := hZ5
      rw [es] at h5
      refine z_aload_n (q := 72) dX8_planDoor_71 rfl rfl rfl ?_
      refine z_getR (q := 75) 8 0 1 23 rfl (by decide) rfl rfl rfl (by with_reducible assumption) (by with_reducible assumption) dX8_planDoor_72 rfl ?_
      refine z_iconst (q := 76) (v := nI 2) dX8_planDoor_75 (by rfl) rfl ?_
      refine z_iald (q := 77) _ (by with_reducible assumption) (rfl) (by omega) (by decide) dX8_planDoor_76 rfl ?_
      exact z_iret rfl dX8_planDoor_77 (Nat.zero_le _) (Nat.zero_le _) ⟨by rw [h5.1], rfl, rfl, rfl, z_upG h3 h5.1 (fun q h1 _ => h5.2 q h1)⟩
    · rw [targQ, if_neg (Int32.not_lt.mpr h49), if_pos (by rw [hgp]; exact h63)]
      refine z_bipush (q := 57) (v := (-3)) dX8_planDoor_55 (by rfl) rfl ?_
      exact z_iret rfl dX8_planDoor_57 (Nat.zero_le _) (Nat.zero_le _) ⟨rfl, rfl, rfl, rfl, rfl, rfl, fun _ _ _ _ => rfl⟩
  · rw [targQ, if_pos (Int32.not_le.mp h49)]
    refine z_bipush (q := 43) (v := (-2)) dX8_planDoor_41 (by rfl) rfl ?_
    exact z_iret rfl dX8_planDoor_43 (Nat.zero_le _) (Nat.zero_le _) ⟨rfl, rfl, rfl, rfl, rfl, rfl, fun _ _ _ _ => rfl⟩

