/-! THE LAW's house beside the class's: its five rows at b .. b+4, a scratch row at b+5 -/
def LT (T : zTT) (b : Nat) : Prop := T b = some (.inr (.int, 9)) ∧ T (b + 1) = some (.inr (.int, 24)) ∧ T (b + 2) = some (.inr (.int, 40)) ∧ T (b + 3) = some (.inr (.int, 48)) ∧ T (b + 4) = some (.inr (.int, 45)) ∧ T (b + 5) = some (.inr (.int, 64))
/-- s: its numbers; M: its plan -/
def LWP (I : zII) (b np : Nat) (s : Nat → Int32) (M : List zE) : Prop := (∀ c, c < 9 → c ≠ 2 → I b c = s c) ∧ I b 2 = nI np ∧ (∀ c, c < 24 → I (b + 1) c = s (9 + c)) ∧ (∀ c, c < 40 → I (b + 2) c = s (57 + c)) ∧ (∀ c, c < 48 → I (b + 3) c = s (177 + c)) ∧ pl (entR (I (b + 4))) np = M
theorem LW_r {I : zII} {b np : Nat} {g : Nat → Int32} {M : List zE} (h : LWP I b np g M) {r w : Nat} (hr : r < 4) (hw : w < 6) : I (b + 1) (6 * r + w) = g (9 + 6 * r + w) := by
  rw [h.2.2.1 _ (by omega), Nat.add_assoc]
theorem LW_r0 {I : zII} {b np : Nat} {g : Nat → Int32} {M : List zE} (h : LWP I b np g M) {r : Nat} (hr : r < 4) : I (b + 1) (6 * r) = g (9 + 6 * r + 0) := by
  rw [h.2.2.1 _ (by omega)]
  rfl
theorem LW_d {I : zII} {b np : Nat} {g : Nat → Int32} {M : List zE} (h : LWP I b np g M) {d w : Nat} (hd : d < 4) (hw : w < 10) : I (b + 2) (10 * d + w) = g (57 + 10 * d + w) := by
  rw [h.2.2.2.1 _ (by omega), Nat.add_assoc]
theorem LW_d0 {I : zII} {b np : Nat} {g : Nat → Int32} {M : List zE} (h : LWP I b np g M) {d : Nat} (hd : d < 4) : I (b + 2) (10 * d) = g (57 + 10 * d + 0) := by
  rw [h.2.2.2.1 _ (by omega)]
  rfl
theorem LW_y {I : zII} {b np : Nat} {g : Nat → Int32} {M : List zE} (h : LWP I b np g M) {d w : Nat} (hd : d < 4) (hw : w < 12) : I (b + 3) (12 * d + w) = g (177 + 12 * d + w) := by
  rw [h.2.2.2.2.1 _ (by omega), Nat.add_assoc]
theorem pl_at {F : Nat → zE} {np k : Nat} (hk : k < np) : (pl F np)[k]? = some (F k) := by
  simp [pl, hk]
theorem LW_e {I : zII} {b np : Nat} {g : Nat → Int32} {M : List zE} (h : LWP I b np g M) {k : Nat} (hk : k < np) : M[k]? = some (entR (I (b + 4)) k) := by
  rw [← h.2.2.2.2.2]
  exact pl_at hk
theorem LW_len {I : zII} {b np : Nat} {g : Nat → Int32} {M : List zE} (h : LWP I b np g M) : M.length = np := by
  rw [← h.2.2.2.2.2]
  simp [pl]
/-- other rows, other numbers -/
theorem LP_s {I : zII} {b np : Nat} {g h : Nat → Int32} {M : List zE} (hL : LWP I b np g M) (e : ∀ c, c < 321 → c ≠ 2 → h c = g c) : LWP I b np h M :=
  ⟨fun c h1 h2 => by rw [e c (by omega) h2]; exact hL.1 c h1 h2, hL.2.1, fun c hc => by rw [e _ (by omega) (by omega)]; exact hL.2.2.1 c hc, fun c hc => by rw [e _ (by omega) (by omega)]; exact hL.2.2.2.1 c hc, fun c hc => by rw [e _ (by omega) (by omega)]; exact hL.2.2.2.2.1 c hc, hL.2.2.2.2.2⟩
theorem LP_f {I I' : zII} {b np : Nat} {g : Nat → Int32} {M : List zE} (hL : LWP I b np g M) (e : ∀ q, b ≤ q → q < b + 5 → I' q = I q) : LWP I' b np g M := by
  unfold LWP
  rw [e b (by omega) (by omega), e (b + 1) (by omega) (by omega), e (b + 2) (by omega) (by omega), e (b + 3) (by omega) (by omega), e (b + 4) (by omega) (by omega)]
  exact hL
theorem LP_g {I : zII} {b np : Nat} {g : Nat → Int32} {M : List zE} (hL : LWP I b np g M) {c : Nat} (v : Int32) (hc : c < 9) (h2 : c ≠ 2) : LWP (zw I b c v) b np (upd g c v) M := by
  unfold LWP
  rw [zw_upd, zw_row _ _ (show b + 1 ≠ b by omega), zw_row _ _ (show b + 2 ≠ b by omega), zw_row _ _ (show b + 3 ≠ b by omega), zw_row _ _ (show b + 4 ≠ b by omega)]
  refine ⟨fun j h1 h3 => ?_, by rw [upd_n _ _ (Ne.symm h2)]; exact hL.2.1, fun j hj => by rw [upd_n _ _ (by omega)]; exact hL.2.2.1 j hj, fun j hj => by rw [upd_n _ _ (by omega)]; exact hL.2.2.2.1 j hj, fun j hj => by rw [upd_n _ _ (by omega)]; exact hL.2.2.2.2.1 j hj, hL.2.2.2.2.2⟩
  by_cases e : j = c
  · rw [e, upd_s, upd_s]
  · rw [upd_n _ _ e, upd_n _ _ e]; exact hL.1 j h1 h3
theorem LP_r {I : zII} {b np : Nat} {g : Nat → Int32} {M : List zE} (hL : LWP I b np g M) {c : Nat} (v : Int32) (hc : c < 24) : LWP (zw I (b + 1) c v) b np (upd g (9 + c) v) M := by
  unfold LWP
  rw [zw_upd, zw_row _ _ (show b ≠ b + 1 by omega), zw_row _ _ (show b + 2 ≠ b + 1 by omega), zw_row _ _ (show b + 3 ≠ b + 1 by omega), zw_row _ _ (show b + 4 ≠ b + 1 by omega)]
  refine ⟨fun j h1 h3 => by rw [upd_n _ _ (by omega)]; exact hL.1 j h1 h3, hL.2.1, fun j hj => ?_, fun j hj => by rw [upd_n _ _ (by omega)]; exact hL.2.2.2.1 j hj, fun j hj => by rw [upd_n _ _ (by omega)]; exact hL.2.2.2.2.1 j hj, hL.2.2.2.2.2⟩
  by_cases e : j = c
  · rw [e, upd_s, upd_s]
  · rw [upd_n _ _ e, upd_n _ _ (by omega)]; exact hL.2.2.1 j hj
theorem LP_d {I : zII} {b np : Nat} {g : Nat → Int32} {M : List zE} (hL : LWP I b np g M) {c : Nat} (v : Int32) (hc : c < 40) : LWP (zw I (b + 2) c v) b np (upd g (57 + c) v) M := by
  unfold LWP
  rw [zw_upd, zw_row _ _ (show b ≠ b + 2 by omega), zw_row _ _ (show b + 1 ≠ b + 2 by omega), zw_row _ _ (show b + 3 ≠ b + 2 by omega), zw_row _ _ (show b + 4 ≠ b + 2 by omega)]
  refine ⟨fun j h1 h3 => by rw [upd_n _ _ (by omega)]; exact hL.1 j h1 h3, hL.2.1, fun j hj => by rw [upd_n _ _ (by omega)]; exact hL.2.2.1 j hj, fun j hj => ?_, fun j hj => by rw [upd_n _ _ (by omega)]; exact hL.2.2.2.2.1 j hj, hL.2.2.2.2.2⟩
  by_cases e : j = c
  · rw [e, upd_s, upd_s]
  · rw [upd_n _ _ e, upd_n _ _ (by omega)]; exact hL.2.2.2.1 j hj
theorem LP_y {I : zII} {b np : Nat} {g : Nat → Int32} {M : List zE} (hL : LWP I b np g M) {c : Nat} (v : Int32) (hc : c < 48) : LWP (zw I (b + 3) c v) b np (upd g (177 + c) v) M := by
  unfold LWP
  rw [zw_upd, zw_row _ _ (show b ≠ b + 3 by omega), zw_row _ _ (show b + 1 ≠ b + 3 by omega), zw_row _ _ (show b + 2 ≠ b + 3 by omega), zw_row _ _ (show b + 4 ≠ b + 3 by omega)]
  refine ⟨fun j h1 h3 => by rw [upd_n _ _ (by omega)]; exact hL.1 j h1 h3, hL.2.1, fun j hj => by rw [upd_n _ _ (by omega)]; exact hL.2.2.1 j hj, fun j hj => by rw [upd_n _ _ (by omega)]; exact hL.2.2.2.1 j hj, fun j hj => ?_, hL.2.2.2.2.2⟩
  by_cases e : j = c
  · rw [e, upd_s, upd_s]
  · rw [upd_n _ _ e, upd_n _ _ (by omega)]; exact hL.2.2.2.2.1 j hj
theorem lN_ne {n : Nat} (h0 : 0 < n) (h : n < 2 ^ 31) : ¬ (nI n).toInt64 = 0 := by
  rw [nI_l h]
  have h0' : (0 : Int64) = lN 0 := by decide +kernel
  rw [h0']
  intro q
  have := (lN_eq h (by omega)).mp q
  omega
theorem flow_8 {g : Nat → Int32} {k s : Nat} (hs : s < 2) (h : g (57 + 10 * k + s) = nI 8) : thrG g (2 * k + s) = 0 := by
  rw [thrG_ds g hs, gN_of h (by omega), thr, if_pos rfl]
set_option maxRecDepth 100000 in
set_option maxHeartbeats 4000000 in
theorem c_L_flow (G : zG) {n : Nat} {T : zTT} {I : zII} {R : zRR} (b nr nd np np2 st k s : Nat) (W : Int) (g : Nat → Int32) (hT : LT T b) (M : List zE) (hL : LWP I b np2 g M) (hI : INV nr nd np st g) (hP : PB W g) (h4 : nr ≤ 4) (h4' : nd ≤ 4) (hk : k < nd) (hs : s < 2) : Ct G yL_flow wsL_flow (0, 0, 0) [.ref (b + 1), .ref (b + 2), .int (nI k), .int (nI s)] n T I R (z_ret (some (.int (thrG g (2 * k + s)))) n T I R) := by
  refine Ct.ofX (M := muL_flow) (ls := [(0, .ref (b + 1)), (1, .ref (b + 2)), (2, .int (nI k)), (3, .int (nI s))]) (by decide +kernel) rfl (by decide) rfl rfl (Nat.le_of_ble_eq_true rfl) ?_
  have hTr := hT.2.1
  have hTd := hT.2.2.1
  obtain ⟨a, ha, ha8, hav⟩ := INV_side hI hk hs
  have hda : I (b + 2) (10 * k + s) = nI a := by rw [LW_d hL (by omega) (by omega)]; exact ha
  refine z_aload_n (q := 1) dL_flow_0 rfl rfl rfl ?_
  refine z_bipush (q := 3) (v := nI 10) dL_flow_1 (by rfl) rfl ?_
  refine z_iload_n (q := 4) dL_flow_3 rfl rfl rfl ?_
  refine z_imulE (q := 5) dL_flow_4 (pk_mul _ _) rfl ?_
  refine z_iload_n (q := 6) dL_flow_5 rfl rfl rfl ?_
  refine z_iaddE (q := 7) dL_flow_6 (nI_add _ _) rfl ?_
  refine z_ialdV (q := 8) _ (by with_reducible assumption) (rfl) (by omega) (by decide) (hda) dL_flow_7 rfl ?_
  refine z_istore (q := 10) dL_flow_8 (by decide) rfl ?_
  refine z_iload (q := 12) (i := 4) dL_flow_10 rfl rfl ?_
  refine z_bipush (q := 14) (v := nI 8) dL_flow_12 (by rfl) rfl ?_
  refine z_icmpn_ne (rfl) (rfl) (by omega) (by omega) (tgt := 21) (q := 17) dL_flow_14 (by decide) rfl (fun h14 => ?_) (fun h14 => ?_)
  · obtain ⟨han, V, hV, hV1, hV2⟩ := hav (by omega)
    obtain ⟨-, -, ar, -, -, o, -, -, -, -, -, ⟨q4, q4'⟩, -, -, ⟨q7, q7'⟩, -⟩ := (hI.2.2.2.2.2.1 k (by omega)).1 hk
    obtain ⟨p1, p2, -⟩ := PB_N hP (pos_e (show a < 8 by omega))
    have hE : I (b + 1) (6 * a + 2) = nI (gN g (9 + 6 * a + 2)) := by rw [LW_r hL (by omega) (by decide)]; exact p1
    have hA : I (b + 2) (10 * k + 2) = nI ar := by rw [LW_d hL (by omega) (by decide)]; exact q4
    have hO : I (b + 2) (10 * k + 5) = nI o := by rw [LW_d hL (by omega) (by decide)]; exact q7
    have hV' : I (b + 1) (6 * a) = nI V := by rw [LW_r0 hL (by omega)]; exact hV
    obtain ⟨f, f1, f2, f3⟩ := thr_v (d := k) (a := a) h14 p1 p2 q4 q4'.2 q7 q7' hV hV1 hV2
    have hfl : thrG g (2 * k + s) = nI (gN g (9 + 6 * a + 2) * (ar * o) / (10 * V)) := by
      rw [thrG_ds g hs, gN_of ha (by omega), f1, f3]
    have hao : ar * o ≤ 1000 * 10 := Nat.mul_le_mul q4'.2 q7'
    have hb : gN g (9 + 6 * a + 2) * (ar * o) < 2 ^ 63 := by
      have h2 : gN g (9 + 6 * a + 2) * (ar * o) ≤ 1000000000 * (1000 * 10) := Nat.mul_le_mul p2 hao
      omega
    refine z_aload_n (q := 22) dL_flow_21 rfl rfl rfl ?_
    refine z_bipush (q := 24) (v := nI 6) dL_flow_22 (by rfl) rfl ?_
    refine z_iload (q := 26) (i := 4) dL_flow_24 rfl rfl ?_
    refine z_imulE (q := 27) dL_flow_26 (pk_mul _ _) rfl ?_
    refine z_iconst (q := 28) (v := nI 2) dL_flow_27 (by rfl) rfl ?_
    refine z_iaddE (q := 29) dL_flow_28 (nI_add _ _) rfl ?_
    refine z_ialdV (q := 30) _ (by with_reducible assumption) (rfl) (by omega) (by decide) (hE) dL_flow_29 rfl ?_
    refine z_i2l (q := 31) dL_flow_30 rfl ?_
    refine z_aload_n (q := 32) dL_flow_31 rfl rfl rfl ?_
    refine z_bipush (q := 34) (v := nI 10) dL_flow_32 (by rfl) rfl ?_
    refine z_iload_n (q := 35) dL_flow_34 rfl rfl rfl ?_
    refine z_imulE (q := 36) dL_flow_35 (pk_mul _ _) rfl ?_
    refine z_iconst (q := 37) (v := nI 2) dL_flow_36 (by rfl) rfl ?_
    refine z_iaddE (q := 38) dL_flow_37 (nI_add _ _) rfl ?_
    refine z_ialdV (q := 39) _ (by with_reducible assumption) (rfl) (by omega) (by decide) (hA) dL_flow_38 rfl ?_
    refine z_aload_n (q := 40) dL_flow_39 rfl rfl rfl ?_
    refine z_bipush (q := 42) (v := nI 10) dL_flow_40 (by rfl) rfl ?_
    refine z_iload_n (q := 43) dL_flow_42 rfl rfl rfl ?_
    refine z_imulE (q := 44) dL_flow_43 (pk_mul _ _) rfl ?_
    refine z_iconst (q := 45) (v := nI 5) dL_flow_44 (by rfl) rfl ?_
    refine z_iaddE (q := 46) dL_flow_45 (nI_add _ _) rfl ?_
    refine z_ialdV (q := 47) _ (by with_reducible assumption) (rfl) (by omega) (by decide) (hO) dL_flow_46 rfl ?_
    refine z_imulE (q := 48) dL_flow_47 (pk_mul _ _) rfl ?_
    refine z_i2l (q := 49) dL_flow_48 rfl ?_
    refine z_lmul (q := 50) dL_flow_49 rfl ?_
    refine z_bipush (q := 52) (v := nI 10) dL_flow_50 (by rfl) rfl ?_
    refine z_aload_n (q := 53) dL_flow_52 rfl rfl rfl ?_
    refine z_bipush (q := 55) (v := nI 6) dL_flow_53 (by rfl) rfl ?_
    refine z_iload (q := 57) (i := 4) dL_flow_55 rfl rfl ?_
    refine z_imulE (q := 58) dL_flow_57 (pk_mul _ _) rfl ?_
    refine z_ialdV (q := 59) _ (by with_reducible assumption) (rfl) (by omega) (by decide) (hV') dL_flow_58 rfl ?_
    refine z_imulE (q := 60) dL_flow_59 (pk_mul _ _) rfl ?_
    refine z_i2l (q := 61) dL_flow_60 rfl ?_
    refine z_ldiv (q := 62) dL_flow_61 (lN_ne (by omega) (by omega)) rfl ?_
    refine z_l2i (q := 63) dL_flow_62 rfl ?_
    exact z_iret rfl dL_flow_63 (Nat.zero_le _) (Nat.zero_le _) (⟨by rw [hfl, nI_l (by omega), nI_l (by omega), nI_l (by omega), lN_mul, pk_lDiv hb (by omega) (by omega), lN_i], rfl, rfl, rfl, rfl⟩)
  · subst h14
    refine z_iconst (q := 18) (v := nI 0) dL_flow_17 (by rfl) rfl ?_
    refine z_goto (q := 63) dL_flow_18 (by decide) ?_
    exact z_iret rfl dL_flow_63 (Nat.zero_le _) (Nat.zero_le _) (⟨by rw [flow_8 hs ha]; rfl, rfl, rfl, rfl, rfl⟩)
theorem wide_iff {x s : Int32} (hs : 0 ≤ s.toInt) : (s < x ∨ s < -x) ↔ s < absI x := by
  have z0 : (0 : Int32).toInt = 0 := by decide
  unfold absI
  by_cases h : x < 0
  · rw [if_pos h]
    have h1 := Int32.lt_iff_toInt_lt.mp h
    rw [z0] at h1
    constructor
    · rintro (z | z)
      · exfalso
        have := Int32.lt_iff_toInt_lt.mp z
        omega
      · exact z
    · exact Or.inr
  · rw [if_neg h]
    constructor
    · rintro (z | z)
      · exact z
      · exfalso
        have h2 : 0 ≤ x.toInt := by
          rcases Int.lt_or_le x.toInt 0 with y | y
          · exact absurd (Int32.lt_iff_toInt_lt.mpr (by rw [z0]; exact y)) h
          · exact y
        have h3 := Int32.lt_iff_toInt_lt.mp z
        have h4 : (-x).toInt = -x.toInt := by
          have hx := x.toInt_lt
          rw [← Int32.zero_sub, z_ts (by rw [z0]; omega) (by rw [z0]; omega), z0]
          omega
        omega
    · exact Or.inl
set_option maxRecDepth 100000 in
set_option maxHeartbeats 4000000 in
theorem c_L_refused (G : zG) {n : Nat} {T : zTT} {I : zII} {R : zRR} (b nr nd np np2 st k t s7 : Nat) (g : Nat → Int32) (hT : LT T b) (M : List zE) (hL : LWP I b np2 g M) (hI : INV nr nd np st g) (h4 : nr ≤ 4) (h4' : nd ≤ 4) (hk : k < nd) (ht : t ≤ 10) (hs7 : g 7 = nI s7) (hs7' : s7 ≤ 1000000) : Ct G yL_refused wsL_refused (0, 0, 0) [.ref b, .ref (b + 1), .ref (b + 2), .int (nI k), .int (nI t)] n T I R (z_ret (some (.int (rsn g k (nI t)))) n T I R) := by
  refine Ct.ofX (M := muL_refused) (ls := [(0, .ref b), (1, .ref (b + 1)), (2, .ref (b + 2)), (3, .int (nI k)), (4, .int (nI t))]) (by decide +kernel) rfl (by decide) rfl rfl (Nat.le_of_ble_eq_true rfl) ?_
  have hTg := hT.1
  have hTr := hT.2.1
  have hTd := hT.2.2.1
  obtain ⟨a, c, ar, sp, de, o, tt, l, ⟨q1, q1'⟩, ⟨q2, q2'⟩, q3, -, -, -, ⟨q7, q7'⟩, ⟨q8, q8'⟩, ⟨q9, q9'⟩⟩ := (hI.2.2.2.2.2.1 k (by omega)).1 hk
  have hda : I (b + 2) (10 * k) = nI a := by rw [LW_d0 hL (by omega)]; exact q1
  have hdc : I (b + 2) (10 * k + 1) = nI c := by rw [LW_d hL (by omega) (by decide)]; exact q2
  have hl : I (b + 2) (10 * k + 7) = nI l := by rw [LW_d hL (by omega) (by decide)]; exact q9
  have htt : I (b + 2) (10 * k + 6) = nI tt := by rw [LW_d hL (by omega) (by decide)]; exact q8
  have ho : I (b + 2) (10 * k + 5) = nI o := by rw [LW_d hL (by omega) (by decide)]; exact q7
  have h7 : I b 7 = nI s7 := by rw [hL.1 7 (by decide) (by decide)]; exact hs7
  have hne : ∀ r, r < nr → ¬ g (9 + 6 * r + 0) = 0 := by
    intro r hr
    obtain ⟨V, hV, hV1, hV2⟩ := ((hI.2.2.2.2.1 r (by omega)).1 hr).1
    rw [hV]
    exact nI_ne0 (by omega) (by omega)
  have hea : I (b + 1) (6 * a + 2) = g (9 + 6 * a + 2) := LW_r hL (by omega) (by decide)
  have hva : I (b + 1) (6 * a) = g (9 + 6 * a + 0) := LW_r0 hL (by omega)
  have hdif : difB g k = g (9 + 6 * a + 2) / g (9 + 6 * a + 0) - dens g c := by
    rw [difB, gN_of q1 (by omega), gN_of q2 (by omega), dens, if_neg (by omega)]
  have hwide : (nI s7 < difB g k ∨ nI s7 < - difB g k) ↔ g 7 < absI (difB g k) := by
    rw [hs7]
    exact wide_iff (by rw [nI_toInt (by omega)]; omega)
  have last : ∀ v : Nat, (v = if g 7 < absI (difB g k) then 1 else 0) → ∀ ls : List (Nat × Value), lv_pick ls [0, 1, 2, 3, 4] = [(0, .ref b), (1, .ref (b + 1)), (2, .ref (b + 2)), (3, .int (nI k)), (4, .int (nI t))] → z_X G muL_refused (0, 0, 0) (z_ret (some (.int (rsn g k (nI t)))) n T I R) n T I R 0 0 90 ls [.int (nI v)] := by
    intro v hv ls hls
    subst hv
    refine z_pick [0, 1, 2, 3, 4] hls ?_
    refine z_istore (q := 92) dL_refused_90 (by decide) rfl ?_
    refine z_aload_n (q := 93) dL_refused_92 rfl rfl rfl ?_
    refine z_bipush (q := 95) (v := nI 10) dL_refused_93 (by rfl) rfl ?_
    refine z_iload_n (q := 96) dL_refused_95 rfl rfl rfl ?_
    refine z_imulE (q := 97) dL_refused_96 (pk_mul _ _) rfl ?_
    refine z_bipush (q := 99) (v := nI 7) dL_refused_97 (by rfl) rfl ?_
    refine z_iaddE (q := 100) dL_refused_99 (nI_add _ _) rfl ?_
    refine z_ialdV (q := 101) _ (by with_reducible assumption) (rfl) (by omega) (by decide) (hl) dL_refused_100 rfl ?_
    refine z_iconst (q := 102) (v := nI 1) dL_refused_101 (by rfl) rfl ?_
    refine z_icmpn_ne (rfl) (rfl) (by omega) (by omega) (tgt := 109) (q := 105) dL_refused_102 (by decide) rfl (fun h102 => ?_) (fun h102 => ?_)
    · have e1 : ¬ g (57 + 10 * k + 7) = 1 := by
        rw [q9, ← zI1]
        exact fun z => h102 ((nI_eq (by omega) (by omega)).mp z)
      refine z_aload_n (q := 110) dL_refused_109 rfl rfl rfl ?_
      refine z_bipush (q := 112) (v := nI 10) dL_refused_110 (by rfl) rfl ?_
      refine z_iload_n (q := 113) dL_refused_112 rfl rfl rfl ?_
      refine z_imulE (q := 114) dL_refused_113 (pk_mul _ _) rfl ?_
      refine z_bipush (q := 116) (v := nI 6) dL_refused_114 (by rfl) rfl ?_
      refine z_iaddE (q := 117) dL_refused_116 (nI_add _ _) rfl ?_
      refine z_ialdV (q := 118) _ (by with_reducible assumption) (rfl) (by omega) (by decide) (htt) dL_refused_117 rfl ?_
      refine z_iload (q := 120) (i := 4) dL_refused_118 rfl rfl ?_
      refine z_icmpn_ne (rfl) (rfl) (by omega) (by omega) (tgt := 127) (q := 123) dL_refused_120 (by decide) rfl (fun h120 => ?_) (fun h120 => ?_)
      · have e2 : ¬ g (57 + 10 * k + 6) = nI t := by
          rw [q8]
          exact fun z => h120 ((nI_eq (by omega) (by omega)).mp z)
        refine z_iload (q := 129) (i := 4) dL_refused_127 rfl rfl ?_
        refine z_aload_n (q := 130) dL_refused_129 rfl rfl rfl ?_
        refine z_bipush (q := 132) (v := nI 10) dL_refused_130 (by rfl) rfl ?_
        refine z_iload_n (q := 133) dL_refused_132 rfl rfl rfl ?_
        refine z_imulE (q := 134) dL_refused_133 (pk_mul _ _) rfl ?_
        refine z_iconst (q := 135) (v := nI 5) dL_refused_134 (by rfl) rfl ?_
        refine z_iaddE (q := 136) dL_refused_135 (nI_add _ _) rfl ?_
        refine z_ialdV (q := 137) _ (by with_reducible assumption) (rfl) (by omega) (by decide) (ho) dL_refused_136 rfl ?_
        refine z_icmpn_le (rfl) (rfl) (by omega) (by omega) (tgt := 149) (q := 140) dL_refused_137 (by decide) rfl (fun h137 => ?_) (fun h137 => ?_)
        · refine z_iconst (q := 150) (v := nI 0) dL_refused_149 (by rfl) rfl ?_
          exact z_iret rfl dL_refused_150 (Nat.zero_le _) (Nat.zero_le _) (⟨by rw [rsn, if_neg e1, if_neg e2, if_neg (fun z => absurd z.1 (by rw [q7]; exact nI_nlt h137 (by omega)))]; rfl, rfl, rfl, rfl, rfl⟩)
        · refine z_iload (q := 142) (i := 8) dL_refused_140 rfl rfl ?_
          by_cases hw : g 7 < absI (difB g k)
          · rw [if_pos hw]
            refine z_if_eq (tgt := 149) (q := 145) dL_refused_142 (by decide) rfl (fun hc => False.elim (absurd hc (by decide))) (fun _ => ?_)
            refine z_iconst (q := 146) (v := nI 3) dL_refused_145 (by rfl) rfl ?_
            refine z_goto (q := 150) dL_refused_146 (by decide) ?_
            exact z_iret rfl dL_refused_150 (Nat.zero_le _) (Nat.zero_le _) (⟨by rw [rsn, if_neg e1, if_neg e2, if_pos ⟨by rw [q7]; exact nI_lt h137 (by omega), hw⟩]; rfl, rfl, rfl, rfl, rfl⟩)
          · rw [if_neg hw]
            refine z_if_eq (tgt := 149) (q := 145) dL_refused_142 (by decide) rfl (fun _ => ?_) (fun hc => False.elim (hc nI_0))
            refine z_iconst (q := 150) (v := nI 0) dL_refused_149 (by rfl) rfl ?_
            exact z_iret rfl dL_refused_150 (Nat.zero_le _) (Nat.zero_le _) (⟨by rw [rsn, if_neg e1, if_neg e2, if_neg (fun z => hw z.2)]; rfl, rfl, rfl, rfl, rfl⟩)
      · refine z_iconst (q := 124) (v := nI 2) dL_refused_123 (by rfl) rfl ?_
        refine z_goto (q := 150) dL_refused_124 (by decide) ?_
        exact z_iret rfl dL_refused_150 (Nat.zero_le _) (Nat.zero_le _) (⟨by rw [rsn, if_neg e1, if_pos (by rw [q8, h120])]; rfl, rfl, rfl, rfl, rfl⟩)
    · refine z_iconst (q := 106) (v := nI 1) dL_refused_105 (by rfl) rfl ?_
      refine z_goto (q := 150) dL_refused_106 (by decide) ?_
      exact z_iret rfl dL_refused_150 (Nat.zero_le _) (Nat.zero_le _) (⟨by rw [rsn, if_pos (by rw [q9, h102]; rfl)]; rfl, rfl, rfl, rfl, rfl⟩)
  have fin : ∀ ls : List (Nat × Value), lv_pick ls [0, 1, 2, 3, 4] = [(0, .ref b), (1, .ref (b + 1)), (2, .ref (b + 2)), (3, .int (nI k)), (4, .int (nI t))] → z_X G muL_refused (0, 0, 0) (z_ret (some (.int (rsn g k (nI t)))) n T I R) n T I R 0 0 64 ls [.int (difB g k)] := by
    intro ls hls
    refine z_pick [0, 1, 2, 3, 4] hls ?_
    refine z_istore (q := 66) dL_refused_64 (by decide) rfl ?_
    refine z_iload (q := 68) (i := 7) dL_refused_66 rfl rfl ?_
    refine z_aload_n (q := 69) dL_refused_68 rfl rfl rfl ?_
    refine z_bipush (q := 71) (v := nI 7) dL_refused_69 (by rfl) rfl ?_
    refine z_ialdV (q := 72) _ (by with_reducible assumption) (rfl) (by omega) (by decide) (h7) dL_refused_71 rfl ?_
    refine z_icmp_gt (tgt := 85) (q := 75) dL_refused_72 (by decide) rfl (fun h72 => ?_) (fun h72 => ?_)
    · refine z_iconst (q := 86) (v := nI 1) dL_refused_85 (by rfl) rfl ?_
      refine z_goto (q := 90) dL_refused_86 (by decide) ?_
      exact last 1 (by rw [if_pos (hwide.mp (Or.inl h72))]) _ rfl
    · refine z_iload (q := 77) (i := 7) dL_refused_75 rfl rfl ?_
      refine z_ineg (q := 78) dL_refused_77 rfl ?_
      refine z_aload_n (q := 79) dL_refused_78 rfl rfl rfl ?_
      refine z_bipush (q := 81) (v := nI 7) dL_refused_79 (by rfl) rfl ?_
      refine z_ialdV (q := 82) _ (by with_reducible assumption) (rfl) (by omega) (by decide) (h7) dL_refused_81 rfl ?_
      refine z_icmp_le (tgt := 89) (q := 85) dL_refused_82 (by decide) rfl (fun h82 => ?_) (fun h82 => ?_)
      · refine z_iconst (q := 90) (v := nI 0) dL_refused_89 (by rfl) rfl ?_
        exact last 0 (by
          rw [if_neg (fun z => by
            rcases hwide.mpr z with y | y
            · exact h72 y
            · exact absurd y (Int32.not_lt.mpr h82))]) _ rfl
      · refine z_iconst (q := 86) (v := nI 1) dL_refused_85 (by rfl) rfl ?_
        refine z_goto (q := 90) dL_refused_86 (by decide) ?_
        exact last 1 (by rw [if_pos (hwide.mp (Or.inr (Int32.not_le.mp h82)))]) _ rfl
  refine z_aload_n (q := 1) dL_refused_0 rfl rfl rfl ?_
  refine z_bipush (q := 3) (v := nI 10) dL_refused_1 (by rfl) rfl ?_
  refine z_iload_n (q := 4) dL_refused_3 rfl rfl rfl ?_
  refine z_imulE (q := 5) dL_refused_4 (pk_mul _ _) rfl ?_
  refine z_ialdV (q := 6) _ (by with_reducible assumption) (rfl) (by omega) (by decide) (hda) dL_refused_5 rfl ?_
  refine z_istore (q := 8) dL_refused_6 (by decide) rfl ?_
  refine z_aload_n (q := 9) dL_refused_8 rfl rfl rfl ?_
  refine z_bipush (q := 11) (v := nI 10) dL_refused_9 (by rfl) rfl ?_
  refine z_iload_n (q := 12) dL_refused_11 rfl rfl rfl ?_
  refine z_imulE (q := 13) dL_refused_12 (pk_mul _ _) rfl ?_
  refine z_iconst (q := 14) (v := nI 1) dL_refused_13 (by rfl) rfl ?_
  refine z_iaddE (q := 15) dL_refused_14 (nI_add _ _) rfl ?_
  refine z_ialdV (q := 16) _ (by with_reducible assumption) (rfl) (by omega) (by decide) (hdc) dL_refused_15 rfl ?_
  refine z_istore (q := 18) dL_refused_16 (by decide) rfl ?_
  refine z_aload_n (q := 19) dL_refused_18 rfl rfl rfl ?_
  refine z_bipush (q := 21) (v := nI 6) dL_refused_19 (by rfl) rfl ?_
  refine z_iload (q := 23) (i := 5) dL_refused_21 rfl rfl ?_
  refine z_imulE (q := 24) dL_refused_23 (pk_mul _ _) rfl ?_
  refine z_iconst (q := 25) (v := nI 2) dL_refused_24 (by rfl) rfl ?_
  refine z_iaddE (q := 26) dL_refused_25 (nI_add _ _) rfl ?_
  refine z_ialdV (q := 27) _ (by with_reducible assumption) (rfl) (by omega) (by decide) (hea) dL_refused_26 rfl ?_
  refine z_aload_n (q := 28) dL_refused_27 rfl rfl rfl ?_
  refine z_bipush (q := 30) (v := nI 6) dL_refused_28 (by rfl) rfl ?_
  refine z_iload (q := 32) (i := 5) dL_refused_30 rfl rfl ?_
  refine z_imulE (q := 33) dL_refused_32 (pk_mul _ _) rfl ?_
  refine z_ialdV (q := 34) _ (by with_reducible assumption) (rfl) (by omega) (by decide) (hva) dL_refused_33 rfl ?_
  refine z_idiv (q := 35) dL_refused_34 (hne a q1') rfl ?_
  refine z_iload (q := 37) (i := 6) dL_refused_35 rfl rfl ?_
  refine z_bipush (q := 39) (v := nI 8) dL_refused_37 (by rfl) rfl ?_
  refine z_icmpn_ne (rfl) (rfl) (by omega) (by omega) (tgt := 46) (q := 42) dL_refused_39 (by decide) rfl (fun h39 => ?_) (fun h39 => ?_)
  · have hcn : c < nr := by omega
    have hec : I (b + 1) (6 * c + 2) = g (9 + 6 * c + 2) := LW_r hL (by omega) (by decide)
    have hvc : I (b + 1) (6 * c) = g (9 + 6 * c + 0) := LW_r0 hL (by omega)
    rw [dens, if_neg h39] at hdif
    refine z_aload_n (q := 47) dL_refused_46 rfl rfl rfl ?_
    refine z_bipush (q := 49) (v := nI 6) dL_refused_47 (by rfl) rfl ?_
    refine z_iload (q := 51) (i := 6) dL_refused_49 rfl rfl ?_
    refine z_imulE (q := 52) dL_refused_51 (pk_mul _ _) rfl ?_
    refine z_iconst (q := 53) (v := nI 2) dL_refused_52 (by rfl) rfl ?_
    refine z_iaddE (q := 54) dL_refused_53 (nI_add _ _) rfl ?_
    refine z_ialdV (q := 55) _ (by with_reducible assumption) (rfl) (by omega) (by decide) (hec) dL_refused_54 rfl ?_
    refine z_aload_n (q := 56) dL_refused_55 rfl rfl rfl ?_
    refine z_bipush (q := 58) (v := nI 6) dL_refused_56 (by rfl) rfl ?_
    refine z_iload (q := 60) (i := 6) dL_refused_58 rfl rfl ?_
    refine z_imulE (q := 61) dL_refused_60 (pk_mul _ _) rfl ?_
    refine z_ialdV (q := 62) _ (by with_reducible assumption) (rfl) (by omega) (by decide) (hvc) dL_refused_61 rfl ?_
    refine z_idiv (q := 63) dL_refused_62 (hne c hcn) rfl ?_
    refine z_isub (q := 64) dL_refused_63 rfl ?_
    rw [← hdif]
    exact fin _ rfl
  · rw [dens, if_pos h39] at hdif
    refine z_iconst (q := 43) (v := nI 0) dL_refused_42 (by rfl) rfl ?_
    refine z_goto (q := 63) dL_refused_43 (by decide) ?_
    refine z_isub (q := 64) dL_refused_63 rfl ?_
    rw [nI_0, ← hdif]
    exact fin _ rfl
/-- a row of entries with room at its i-th place -/
def shR (P : Nat → Int32) (i np : Nat) : Nat → Int32 := fun c => if 5 * i + 5 ≤ c ∧ c < 5 * np + 5 then P (c - 5) else P c
def putR (P : Nat → Int32) (i np : Nat) (v0 v1 v2 v3 v4 : Int32) : Nat → Int32 := upd (upd (upd (upd (upd (shR P i np) (5 * i) v0) (5 * i + 1) v1) (5 * i + 2) v2) (5 * i + 3) v3) (5 * i + 4) v4
set_option maxRecDepth 100000 in
set_option maxHeartbeats 4000000 in
theorem c_L_puts (G : zG) {n : Nat} {T : zTT} {I : zII} {R : zRR} (ga pa np pos : Nat) (v0 v1 v2 v3 v4 : Int32) (hTg : T ga = some (.inr (.int, 9))) (hTp : T pa = some (.inr (.int, 45))) (hgp : ga ≠ pa) (h2 : I ga 2 = nI np) (hnp : np ≤ 8) (hpos : pos ≤ np) (hgt : ∀ j, pos ≤ j → j < np → v0 < I pa (5 * j)) (hle : 0 < pos → ¬ v0 < I pa (5 * (pos - 1))) : Ct G yL_puts wsL_puts (0, 0, 0) [.ref ga, .ref pa, .int v0, .int v1, .int v2, .int v3, .int v4] n T I R (z_rel none n T (fun I' R' => R' = R ∧ I' ga = upd (upd (I ga) 2 (nI (np + 1))) 5 (I ga 5 + v3 * v4) ∧ I' pa = putR (I pa) pos np v0 v1 v2 v3 v4 ∧ ∀ q, q ≠ ga → q ≠ pa → I' q = I q)) := by
  refine Ct.ofX (M := muL_puts) (ls := [(0, .ref ga), (1, .ref pa), (2, .int v0), (3, .int v1), (4, .int v2), (5, .int v3), (6, .int v4)]) (by decide +kernel) rfl (by decide) rfl rfl (Nat.le_of_ble_eq_true rfl) ?_
  have last : ∀ (I2 : zII), I2 pa = shR (I pa) pos np → (∀ q, q ≠ pa → I2 q = I q) → ∀ ls : List (Nat × Value), lv_pick ls [0, 1, 2, 3, 4, 5, 6, 7] = [(0, .ref ga), (1, .ref pa), (2, .int v0), (3, .int v1), (4, .int v2), (5, .int v3), (6, .int v4), (7, .int (nI pos))] → z_X G muL_puts (0, 0, 0) (z_rel none n T (fun I' R' => R' = R ∧ I' ga = upd (upd (I ga) 2 (nI (np + 1))) 5 (I ga 5 + v3 * v4) ∧ I' pa = putR (I pa) pos np v0 v1 v2 v3 v4 ∧ ∀ q, q ≠ ga → q ≠ pa → I' q = I q)) n T I2 R 0 0 63 ls [] := by
    intro I2 hp hf ls hls
    refine z_pick [0, 1, 2, 3, 4, 5, 6, 7] hls ?_
    refine z_aload_n (q := 64) dL_puts_63 rfl rfl rfl ?_
    refine z_iconst (q := 65) (v := nI 5) dL_puts_64 (by rfl) rfl ?_
    refine z_iload (q := 67) (i := 7) dL_puts_65 rfl rfl ?_
    refine z_imulE (q := 68) dL_puts_67 (pk_mul _ _) rfl ?_
    refine z_iload_n (q := 69) dL_puts_68 rfl rfl rfl ?_
    refine z_iast (q := 70) _ (by with_reducible assumption) (rfl) (by omega) (by decide) dL_puts_69 rfl ?_
    refine z_aload_n (q := 71) dL_puts_70 rfl rfl rfl ?_
    refine z_iconst (q := 72) (v := nI 5) dL_puts_71 (by rfl) rfl ?_
    refine z_iload (q := 74) (i := 7) dL_puts_72 rfl rfl ?_
    refine z_imulE (q := 75) dL_puts_74 (pk_mul _ _) rfl ?_
    refine z_iconst (q := 76) (v := nI 1) dL_puts_75 (by rfl) rfl ?_
    refine z_iaddE (q := 77) dL_puts_76 (nI_add _ _) rfl ?_
    refine z_iload_n (q := 78) dL_puts_77 rfl rfl rfl ?_
    refine z_iast (q := 79) _ (by with_reducible assumption) (rfl) (by omega) (by decide) dL_puts_78 rfl ?_
    refine z_aload_n (q := 80) dL_puts_79 rfl rfl rfl ?_
    refine z_iconst (q := 81) (v := nI 5) dL_puts_80 (by rfl) rfl ?_
    refine z_iload (q := 83) (i := 7) dL_puts_81 rfl rfl ?_
    refine z_imulE (q := 84) dL_puts_83 (pk_mul _ _) rfl ?_
    refine z_iconst (q := 85) (v := nI 2) dL_puts_84 (by rfl) rfl ?_
    refine z_iaddE (q := 86) dL_puts_85 (nI_add _ _) rfl ?_
    refine z_iload (q := 88) (i := 4) dL_puts_86 rfl rfl ?_
    refine z_iast (q := 89) _ (by with_reducible assumption) (rfl) (by omega) (by decide) dL_puts_88 rfl ?_
    refine z_aload_n (q := 90) dL_puts_89 rfl rfl rfl ?_
    refine z_iconst (q := 91) (v := nI 5) dL_puts_90 (by rfl) rfl ?_
    refine z_iload (q := 93) (i := 7) dL_puts_91 rfl rfl ?_
    refine z_imulE (q := 94) dL_puts_93 (pk_mul _ _) rfl ?_
    refine z_iconst (q := 95) (v := nI 3) dL_puts_94 (by rfl) rfl ?_
    refine z_iaddE (q := 96) dL_puts_95 (nI_add _ _) rfl ?_
    refine z_iload (q := 98) (i := 5) dL_puts_96 rfl rfl ?_
    refine z_iast (q := 99) _ (by with_reducible assumption) (rfl) (by omega) (by decide) dL_puts_98 rfl ?_
    refine z_aload_n (q := 100) dL_puts_99 rfl rfl rfl ?_
    refine z_iconst (q := 101) (v := nI 5) dL_puts_100 (by rfl) rfl ?_
    refine z_iload (q := 103) (i := 7) dL_puts_101 rfl rfl ?_
    refine z_imulE (q := 104) dL_puts_103 (pk_mul _ _) rfl ?_
    refine z_iconst (q := 105) (v := nI 4) dL_puts_104 (by rfl) rfl ?_
    refine z_iaddE (q := 106) dL_puts_105 (nI_add _ _) rfl ?_
    refine z_iload (q := 108) (i := 6) dL_puts_106 rfl rfl ?_
    refine z_iast (q := 109) _ (by with_reducible assumption) (rfl) (by omega) (by decide) dL_puts_108 rfl ?_
    have g2 : zw (zw (zw (zw (zw I2 pa (5 * pos) v0) pa (5 * pos + 1) v1) pa (5 * pos + 2) v2) pa (5 * pos + 3) v3) pa (5 * pos + 4) v4 ga 2 = nI np := by
      rw [zw_row _ _ hgp, zw_row _ _ hgp, zw_row _ _ hgp, zw_row _ _ hgp, zw_row _ _ hgp, hf ga hgp]; exact h2
    refine z_aload_n (q := 110) dL_puts_109 rfl rfl rfl ?_
    refine z_iconst (q := 111) (v := nI 2) dL_puts_110 (by rfl) rfl ?_
    refine z_dup2 (q := 112) dL_puts_111 rfl rfl rfl ?_
    refine z_ialdV (q := 113) _ (by with_reducible assumption) (rfl) (by omega) (by decide) (g2) dL_puts_112 rfl ?_
    refine z_iconst (q := 114) (v := nI 1) dL_puts_113 (by rfl) rfl ?_
    refine z_iaddE (q := 115) dL_puts_114 (nI_add _ _) rfl ?_
    refine z_iast (q := 116) _ (by with_reducible assumption) (rfl) (by omega) (by decide) dL_puts_115 rfl ?_
    refine z_aload_n (q := 117) dL_puts_116 rfl rfl rfl ?_
    refine z_iconst (q := 118) (v := nI 5) dL_puts_117 (by rfl) rfl ?_
    refine z_dup2 (q := 119) dL_puts_118 rfl rfl rfl ?_
    refine z_iald (q := 120) _ (by with_reducible assumption) (rfl) (by omega) (by decide) dL_puts_119 rfl ?_
    refine z_iload (q := 122) (i := 5) dL_puts_120 rfl rfl ?_
    refine z_iload (q := 124) (i := 6) dL_puts_122 rfl rfl ?_
    refine z_imul (q := 125) dL_puts_124 rfl ?_
    refine z_iadd (q := 126) dL_puts_125 rfl ?_
    refine z_iast (q := 127) _ (by with_reducible assumption) (rfl) (by omega) (by decide) dL_puts_126 rfl ?_
    exact z_vret rfl dL_puts_127 (Nat.zero_le _) (Nat.zero_le _) (⟨rfl, rfl, rfl, rfl, by rw [zw_upd, zw_upd, upd_n _ _ (by decide), zw_row _ _ hgp, zw_row _ _ hgp, zw_row _ _ hgp, zw_row _ _ hgp, zw_row _ _ hgp, hf ga hgp], by rw [zw_row _ _ (Ne.symm hgp), zw_row _ _ (Ne.symm hgp), zw_upd, zw_upd, zw_upd, zw_upd, zw_upd, hp]; rfl, fun q q1 q2 => by rw [zw_row _ _ q1, zw_row _ _ q1, zw_row _ _ q2, zw_row _ _ q2, zw_row _ _ q2, zw_row _ _ q2, zw_row _ _ q2, hf q q2]⟩)
  have outer : ∀ d i, i = pos + d → i ≤ np → ∀ (I2 : zII), I2 pa = shR (I pa) i np → (∀ q, q ≠ pa → I2 q = I q) → ∀ ls : List (Nat × Value), lv_pick ls [0, 1, 2, 3, 4, 5, 6, 7] = [(0, .ref ga), (1, .ref pa), (2, .int v0), (3, .int v1), (4, .int v2), (5, .int v3), (6, .int v4), (7, .int (nI i))] → z_X G muL_puts (0, 0, 0) (z_rel none n T (fun I' R' => R' = R ∧ I' ga = upd (upd (I ga) 2 (nI (np + 1))) 5 (I ga 5 + v3 * v4) ∧ I' pa = putR (I pa) pos np v0 v1 v2 v3 v4 ∧ ∀ q, q ≠ ga → q ≠ pa → I' q = I q)) n T I2 R 0 0 5 ls [] := by
    intro d
    induction d with
    | zero =>
      intro i hi hin I2 hp hf ls hls
      have hi : i = pos := hi
      subst hi
      refine z_pick [0, 1, 2, 3, 4, 5, 6, 7] hls ?_
      refine z_iload (q := 7) (i := 7) dL_puts_5 rfl rfl ?_
      refine z_if_le (tgt := 63) (q := 10) dL_puts_7 (by decide) rfl (fun h7 => ?_) (fun h7 => ?_)
      · exact last I2 hp hf _ rfl
      · have h0 : 0 < i := Nat.pos_of_ne_zero (fun z => h7 (by rw [z]; decide))
        have hv : I2 pa (5 * i - 5) = I pa (5 * (i - 1)) := by
          rw [hp, shR, if_neg (by omega), show 5 * i - 5 = 5 * (i - 1) by omega]
        refine z_aload_n (q := 11) dL_puts_10 rfl rfl rfl ?_
        refine z_iconst (q := 12) (v := nI 5) dL_puts_11 (by rfl) rfl ?_
        refine z_iload (q := 14) (i := 7) dL_puts_12 rfl rfl ?_
        refine z_imulE (q := 15) dL_puts_14 (pk_mul _ _) rfl ?_
        refine z_iconst (q := 16) (v := nI 5) dL_puts_15 (by rfl) rfl ?_
        refine z_isubE (q := 17) dL_puts_16 (pk_sub (by omega)) rfl ?_
        refine z_ialdV (q := 18) _ (by with_reducible assumption) (rfl) (by omega) (by decide) (hv) dL_puts_17 rfl ?_
        refine z_iload_n (q := 19) dL_puts_18 rfl rfl rfl ?_
        refine z_icmp_le (tgt := 63) (q := 22) dL_puts_19 (by decide) rfl (fun _ => ?_) (fun hc => False.elim (hc (Int32.not_lt.mp (hle h0))))
        exact last I2 hp hf _ rfl
    | succ d ih =>
      intro i hi hin I2 hp hf ls hls
      have hv : I2 pa (5 * i - 5) = I pa (5 * (i - 1)) := by
        rw [hp, shR, if_neg (by omega), show 5 * i - 5 = 5 * (i - 1) by omega]
      have hbig := hgt (i - 1) (by omega) (by omega)
      have inner : ∀ j, j ≤ 5 → ∀ (I3 : zII), I3 pa = (fun c => if (5 * i ≤ c ∧ c < 5 * i + j) ∨ (5 * i + 5 ≤ c ∧ c < 5 * np + 5) then I pa (c - 5) else I pa c) → (∀ q, q ≠ pa → I3 q = I q) → ∀ ls : List (Nat × Value), lv_pick ls [0, 1, 2, 3, 4, 5, 6, 7, 8] = [(0, .ref ga), (1, .ref pa), (2, .int v0), (3, .int v1), (4, .int v2), (5, .int v3), (6, .int v4), (7, .int (nI i)), (8, .int (nI j))] → z_X G muL_puts (0, 0, 0) (z_rel none n T (fun I' R' => R' = R ∧ I' ga = upd (upd (I ga) 2 (nI (np + 1))) 5 (I ga 5 + v3 * v4) ∧ I' pa = putR (I pa) pos np v0 v1 v2 v3 v4 ∧ ∀ q, q ≠ ga → q ≠ pa → I' q = I q)) n T I3 R 0 0 25 ls [] := by
        refine z_up (N := 5) _ ?_ ?_
        · intro I3 hp3 hf3 ls hls
          refine z_pick [0, 1, 2, 3, 4, 5, 6, 7, 8] hls ?_
          refine z_iload (q := 27) (i := 8) dL_puts_25 rfl rfl ?_
          refine z_iconst (q := 28) (v := nI 5) dL_puts_27 (by rfl) rfl ?_
          refine z_icmpn_ge (rfl) (rfl) (by omega) (by omega) (tgt := 57) (q := 31) dL_puts_28 (by decide) rfl (fun _ => ?_) (fun hc => absurd hc (by omega))
          have hdec : nI i + Int32.ofInt (-1) = nI (i - 1) := by
            have := z_m1 (i - 1)
            rw [show i - 1 + 1 = i by omega] at this
            exact this
          refine z_iinc (q := 60) dL_puts_57 rfl (hdec) (by decide) rfl ?_
          refine z_goto (q := 5) dL_puts_60 (by decide) ?_
          refine ih (i - 1) (by omega) (by omega) I3 ?_ hf3 _ rfl
          rw [hp3]
          funext c
          rw [shR]
          by_cases e : (5 * i ≤ c ∧ c < 5 * i + 5) ∨ (5 * i + 5 ≤ c ∧ c < 5 * np + 5)
          · rw [if_pos e, if_pos (by omega)]
          · rw [if_neg e, if_neg (by omega)]
        · intro j hj ihj I3 hp3 hf3 ls hls
          have hr : I3 pa (5 * i - 5 + j) = I pa (5 * i - 5 + j) := by
            rw [hp3]
            exact if_neg (by omega)
          refine z_pick [0, 1, 2, 3, 4, 5, 6, 7, 8] hls ?_
          refine z_iload (q := 27) (i := 8) dL_puts_25 rfl rfl ?_
          refine z_iconst (q := 28) (v := nI 5) dL_puts_27 (by rfl) rfl ?_
          refine z_icmpn_ge (rfl) (rfl) (by omega) (by omega) (tgt := 57) (q := 31) dL_puts_28 (by decide) rfl (fun hc => absurd hc (by omega)) (fun _ => ?_)
          refine z_aload_n (q := 32) dL_puts_31 rfl rfl rfl ?_
          refine z_iconst (q := 33) (v := nI 5) dL_puts_32 (by rfl) rfl ?_
          refine z_iload (q := 35) (i := 7) dL_puts_33 rfl rfl ?_
          refine z_imulE (q := 36) dL_puts_35 (pk_mul _ _) rfl ?_
          refine z_iload (q := 38) (i := 8) dL_puts_36 rfl rfl ?_
          refine z_iaddE (q := 39) dL_puts_38 (nI_add _ _) rfl ?_
          refine z_aload_n (q := 40) dL_puts_39 rfl rfl rfl ?_
          refine z_iconst (q := 41) (v := nI 5) dL_puts_40 (by rfl) rfl ?_
          refine z_iload (q := 43) (i := 7) dL_puts_41 rfl rfl ?_
          refine z_imulE (q := 44) dL_puts_43 (pk_mul _ _) rfl ?_
          refine z_iconst (q := 45) (v := nI 5) dL_puts_44 (by rfl) rfl ?_
          refine z_isubE (q := 46) dL_puts_45 (pk_sub (by omega)) rfl ?_
          refine z_iload (q := 48) (i := 8) dL_puts_46 rfl rfl ?_
          refine z_iaddE (q := 49) dL_puts_48 (nI_add _ _) rfl ?_
          refine z_iald (q := 50) _ (by with_reducible assumption) (rfl) (by omega) (by decide) dL_puts_49 rfl ?_
          refine z_iast (q := 51) _ (by with_reducible assumption) (rfl) (by omega) (by decide) dL_puts_50 rfl ?_
          refine z_iinc (q := 54) dL_puts_51 rfl (nI_add _ 1) (by decide) rfl ?_
          refine z_goto (q := 25) dL_puts_54 (by decide) ?_
          refine ihj _ ?_ (fun q hq => by rw [zw_row _ _ hq]; exact hf3 q hq) _ rfl
          rw [zw_upd, hr, hp3]
          funext c
          by_cases e : c = 5 * i + j
          · rw [e, upd_s, if_pos (by omega), show 5 * i + j - 5 = 5 * i - 5 + j by omega]
          · rw [upd_n _ _ e]
            by_cases e2 : (5 * i ≤ c ∧ c < 5 * i + j) ∨ (5 * i + 5 ≤ c ∧ c < 5 * np + 5)
            · rw [if_pos e2, if_pos (by omega)]
            · rw [if_neg e2, if_neg (by omega)]
      refine z_pick [0, 1, 2, 3, 4, 5, 6, 7] hls ?_
      refine z_iload (q := 7) (i := 7) dL_puts_5 rfl rfl ?_
      refine z_if_le (tgt := 63) (q := 10) dL_puts_7 (by decide) rfl (fun hc => False.elim (nI_nle (n := i) (by omega) (by omega) hc)) (fun _ => ?_)
      refine z_aload_n (q := 11) dL_puts_10 rfl rfl rfl ?_
      refine z_iconst (q := 12) (v := nI 5) dL_puts_11 (by rfl) rfl ?_
      refine z_iload (q := 14) (i := 7) dL_puts_12 rfl rfl ?_
      refine z_imulE (q := 15) dL_puts_14 (pk_mul _ _) rfl ?_
      refine z_iconst (q := 16) (v := nI 5) dL_puts_15 (by rfl) rfl ?_
      refine z_isubE (q := 17) dL_puts_16 (pk_sub (by omega)) rfl ?_
      refine z_ialdV (q := 18) _ (by with_reducible assumption) (rfl) (by omega) (by decide) (hv) dL_puts_17 rfl ?_
      refine z_iload_n (q := 19) dL_puts_18 rfl rfl rfl ?_
      refine z_icmp_le (tgt := 63) (q := 22) dL_puts_19 (by decide) rfl (fun hc => False.elim (absurd hbig (Int32.not_lt.mpr hc))) (fun _ => ?_)
      refine z_iconst (q := 23) (v := nI 0) dL_puts_22 (by rfl) rfl ?_
      refine z_istore (q := 25) dL_puts_23 (by decide) rfl ?_
      refine inner 0 (Nat.zero_le _) I2 ?_ hf _ rfl
      rw [hp]
      funext c
      rw [shR]
      by_cases e : 5 * i + 5 ≤ c ∧ c < 5 * np + 5
      · rw [if_pos e, if_pos (by omega)]
      · rw [if_neg e, if_neg (by omega)]
  refine z_aload_n (q := 1) dL_puts_0 rfl rfl rfl ?_
  refine z_iconst (q := 2) (v := nI 2) dL_puts_1 (by rfl) rfl ?_
  refine z_ialdV (q := 3) _ (by with_reducible assumption) (rfl) (by omega) (by decide) (h2) dL_puts_2 rfl ?_
  refine z_istore (q := 5) dL_puts_3 (by decide) rfl ?_
  refine outer (np - pos) np (by omega) (Nat.le_refl _) I ?_ (fun _ _ => rfl) _ rfl
  funext c
  rw [shR, if_neg (by omega)]
theorem sh31 : ∀ m : Nat, m < 31 → ((nI m &&& 31).toBitVec.smod 32).toNat = m := by decide +kernel
theorem lvl_at {E j : Nat} (hE : E < 2 ^ 31) (h1 : 1 ≤ j) (hpos : 0 < E / 2 ^ (j - 1)) (hz : E / 2 ^ j = 0) : ∀ k, j ≤ k → k ≤ 31 → lvl (nI E) k = nI (j - 1) := by
  intro k
  induction k with
  | zero => intro h; omega
  | succ k ih =>
    intro hk hk2
    have hs := pk_shrN hE (nI k &&& 31) k (sh31 k (by omega))
    rw [lvl, hs]
    by_cases e : j = k + 1
    · subst e
      rw [show k + 1 - 1 = k by omega] at hpos ⊢
      rw [if_neg]
      exact nI_nle hpos (Nat.lt_of_le_of_lt (Nat.div_le_self _ _) hE)
    · have hz2 : E / 2 ^ k = 0 := by
        rw [Nat.div_eq_zero_iff] at hz ⊢
        right
        rcases hz with y | y
        · exact absurd y (Nat.ne_of_gt (Nat.two_pow_pos j))
        · exact Nat.lt_of_lt_of_le y (Nat.pow_le_pow_right (by decide) (by omega))
      rw [hz2, if_pos (by decide)]
      exact ih (by omega) (by omega)
def lvV (j : Nat) : Int32 := if j = 0 then -1 else nI (j - 1)
def lvD (E j : Nat) : Nat := E / 2 ^ j
set_option maxRecDepth 100000 in
set_option maxHeartbeats 4000000 in
theorem c_L_level (G : zG) {n : Nat} {T : zTT} {I : zII} {R : zRR} (E : Nat) (hE : E < 2 ^ 31) : Ct G yL_level wsL_level (0, 0, 0) [.int (nI E)] n T I R (z_ret (some (.int (lvl (nI E) 31))) n T I R) := by
  refine Ct.ofX (M := muL_level) (ls := [(0, .int (nI E))]) (by decide +kernel) rfl (by decide) rfl rfl (Nat.le_of_ble_eq_true rfl) ?_
  have loop : ∀ d j, j + d = 31 → (1 ≤ j → 0 < E / 2 ^ (j - 1)) → ∀ ls : List (Nat × Value), lv_pick ls [0, 1, 2] = [(0, .int (nI E)), (1, .int (lvV j)), (2, .int (nI (lvD E j)))] → z_X G muL_level (0, 0, 0) (z_ret (some (.int (lvl (nI E) 31))) n T I R) n T I R 0 0 4 ls [] := by
    have exit : ∀ j, j ≤ 31 → (1 ≤ j → 0 < E / 2 ^ (j - 1)) → E / 2 ^ j = 0 → ∀ ls : List (Nat × Value), lv_pick ls [0, 1, 2] = [(0, .int (nI E)), (1, .int (lvV j)), (2, .int (nI (lvD E j)))] → z_X G muL_level (0, 0, 0) (z_ret (some (.int (lvl (nI E) 31))) n T I R) n T I R 0 0 4 ls [] := by
      intro j hj hp hz ls hls
      rw [show lvD E j = 0 from hz] at hls
      refine z_pick [0, 1, 2] hls ?_
      refine z_iload_n (q := 5) dL_level_4 rfl rfl rfl ?_
      refine z_if_le (tgt := 18) (q := 8) dL_level_5 (by decide) rfl (fun _ => ?_) (fun hc => False.elim (hc (by decide)))
      by_cases h0 : j = 0
      · subst h0
        have hE0 : E = 0 := by simpa using hz
        refine z_iload_n (q := 19) dL_level_18 rfl rfl rfl ?_
        refine z_if_ge (tgt := 27) (q := 22) dL_level_19 (by decide) rfl (fun hc => False.elim (absurd hc (by decide))) (fun _ => ?_)
        refine z_bipush (q := 24) (v := (-4)) dL_level_22 (by rfl) rfl ?_
        refine z_goto (q := 28) dL_level_24 (by decide) ?_
        exact z_iret rfl dL_level_28 (Nat.zero_le _) (Nat.zero_le _) (⟨by rw [hE0, lvl_np (by decide)], rfl, rfl, rfl, rfl⟩)
      · have hv : lvV j = nI (j - 1) := if_neg h0
        refine z_iload_n (q := 19) dL_level_18 rfl rfl rfl ?_
        refine z_if_ge (tgt := 27) (q := 22) dL_level_19 (by decide) rfl (fun _ => ?_) (fun hc => False.elim (hc (by rw [hv]; exact nI_pos' (by omega))))
        refine z_iload_n (q := 28) dL_level_27 rfl rfl rfl ?_
        exact z_iret rfl dL_level_28 (Nat.zero_le _) (Nat.zero_le _) (⟨by rw [hv, lvl_at hE (by omega) (hp (by omega)) hz 31 hj (Nat.le_refl _)], rfl, rfl, rfl, rfl⟩)
    intro d
    induction d with
    | zero =>
      intro j hj hp ls hls
      have hj : j = 31 := hj
      subst hj
      exact exit 31 (Nat.le_refl _) hp (Nat.div_eq_of_lt hE) ls hls
    | succ d ih =>
      intro j hj hp ls hls
      by_cases hz : E / 2 ^ j = 0
      · exact exit j (by omega) hp hz ls hls
      · have hlt : E / 2 ^ j < 2 ^ 31 := Nat.lt_of_le_of_lt (Nat.div_le_self _ _) hE
        have hd2 : nI (lvD E j) / nI 2 = nI (lvD E (j + 1)) := by
          unfold lvD
          rw [pk_div hlt (by decide) (by decide), Nat.div_div_eq_div_mul, ← Nat.pow_succ]
        have hin : lvV j + Int32.ofInt 1 = lvV (j + 1) := by
          unfold lvV
          rw [if_neg (Nat.succ_ne_zero j)]
          by_cases h0 : j = 0
          · subst h0; decide
          · rw [if_neg h0, show j + 1 - 1 = (j - 1) + 1 by omega]
            exact nI_add (j - 1) 1
        refine z_pick [0, 1, 2] hls ?_
        refine z_iload_n (q := 5) dL_level_4 rfl rfl rfl ?_
        refine z_if_le (tgt := 18) (q := 8) dL_level_5 (by decide) rfl (fun hc => False.elim (nI_nle (n := lvD E j) (Nat.pos_of_ne_zero hz) hlt hc)) (fun _ => ?_)
        refine z_iinc (q := 11) dL_level_8 rfl (hin) (by decide) rfl ?_
        refine z_iload_n (q := 12) dL_level_11 rfl rfl rfl ?_
        refine z_iconst (q := 13) (v := nI 2) dL_level_12 (by rfl) rfl ?_
        refine z_idivE (q := 14) dL_level_13 (by decide) hd2 rfl ?_
        refine z_istore_n (q := 15) dL_level_14 rfl (by decide) rfl ?_
        refine z_goto (q := 4) dL_level_15 (by decide) ?_
        exact ih (j + 1) (by omega) (fun _ => by rw [show j + 1 - 1 = j by omega]; exact Nat.pos_of_ne_zero hz) _ rfl
  refine z_iconst (q := 1) (v := (-1)) dL_level_0 (by rfl) rfl ?_
  refine z_istore_n (q := 2) dL_level_1 rfl (by decide) rfl ?_
  refine z_iload_n (q := 3) dL_level_2 rfl rfl rfl ?_
  refine z_istore_n (q := 4) dL_level_3 rfl (by decide) rfl ?_
  exact loop 31 0 rfl (fun h => absurd h (by decide)) _ (by rw [show lvD E 0 = E by rw [lvD, Nat.pow_zero, Nat.div_one]]; rfl)

