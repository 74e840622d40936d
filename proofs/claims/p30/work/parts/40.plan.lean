/-! THE CLASS, its plan at p: entries' row at p+1, entries at p+2 .. p+17 -/
def entC (I : zII) (a : Nat) : zE := (I a 1, (if I a 0 = 0 then nI 1 else nI 0), I a 2, I a 3, I a 4)
def eAt (R : zRR) (p k : Nat) : Nat := (R (p + 1) k).getD 0
def z_Plan (T : zTT) (R : zRR) (p : Nat) : Prop := T p = some (.inl 4) ∧ T (p + 1) = some (.inr (.object RX1, 16)) ∧ R p 0 = some (p + 1) ∧ ∀ q, p + 2 ≤ q → q < p + 18 → T q = some (.inl 1)
def z_Prm (R : zRR) (p : Nat) : Prop := (∀ k, k < 16 → R (p + 1) k = some (eAt R p k) ∧ p + 2 ≤ eAt R p k ∧ eAt R p k < p + 18) ∧ ∀ j k, j < 16 → k < 16 → eAt R p j = eAt R p k → j = k
def z_PG (I : zII) (R : zRR) (p np : Nat) (F : Nat → zE) : Prop := np ≤ 16 ∧ I p 1 = nI np ∧ (∀ k, k < 16 → I (eAt R p k) 0 = 0 ∨ I (eAt R p k) 0 = 1) ∧ ∀ k, k < np → entC I (eAt R p k) = F k
def z_P (T : zTT) (I : zII) (R : zRR) (p np : Nat) (F : Nat → zE) : Prop := z_Plan T R p ∧ z_Prm R p ∧ z_PG I R p np F
def pl (F : Nat → zE) (np : Nat) : List zE := (List.range np).map F
def dropF (F : Nat → zE) (k : Nat) : Nat → zE := fun j => if j < k then F j else F (j + 1)
def insF (F : Nat → zE) (k : Nat) (e : zE) : Nat → zE := fun j => if j < k then F j else if j = k then e else F (j - 1)
theorem z_PlanR {T : zTT} {R R' : zRR} {p : Nat} (h : z_Plan T R p) (hR : R' p = R p) : z_Plan T R' p := ⟨h.1, h.2.1, by rw [hR]; exact h.2.2.1, h.2.2.2⟩
theorem z_Prm_s {R R' : zRR} {p : Nat} (σ : Nat → Nat) (h : z_Prm R p) (hR : ∀ j, j < 16 → R' (p + 1) j = R (p + 1) (σ j)) (h1 : ∀ j, j < 16 → σ j < 16) (h2 : ∀ j k, j < 16 → k < 16 → σ j = σ k → j = k) : z_Prm R' p ∧ ∀ j, j < 16 → eAt R' p j = eAt R p (σ j) := by
  have he : ∀ j, j < 16 → eAt R' p j = eAt R p (σ j) := fun j hj => by unfold eAt; rw [hR j hj]
  refine ⟨⟨fun k hk => ?_, fun j k hj hk e => ?_⟩, he⟩
  · rw [he k hk, hR k hk]
    exact h.1 _ (h1 k hk)
  · rw [he j hj, he k hk] at e
    exact h2 j k hj hk (h.2 _ _ (h1 j hj) (h1 k hk) e)
theorem z_eT {T : zTT} {I : zII} {R : zRR} {p np : Nat} {F : Nat → zE} (h : z_P T I R p np F) {k : Nat} (hk : k < 16) : T (eAt R p k) = some (.inl 1) := h.1.2.2.2 _ (h.2.1.1 k hk).2.1 (h.2.1.1 k hk).2.2
set_option maxRecDepth 100000 in
set_option maxHeartbeats 4000000 in
theorem c_X4_isFull (G : zG) {n : Nat} {T : zTT} {I : zII} {R : zRR} (p np : Nat) (F : Nat → zE) (hP : z_P T I R p np F) : Ct G yX4_isFull wsX4_isFull (0, 0, 0) [.ref p] n T I R (z_ret (some (.int (if np = 16 then 1 else 0))) n T I R) := by
  refine Ct.ofX (M := muX4_isFull) (ls := [(0, .ref p)]) (by decide +kernel) rfl (by decide) rfl rfl (Nat.le_of_ble_eq_true rfl) ?_
  obtain ⟨⟨hTp, hTe, hRp, -⟩, -, hnp, hs, -⟩ := id hP
  refine z_aload_n (q := 1) dX4_isFull_0 rfl rfl rfl ?_
  refine z_getV (q := 4) 4 1 1 4 rfl (by decide) rfl rfl rfl (by with_reducible assumption) (hs) dX4_isFull_1 rfl ?_
  refine z_aload_n (q := 5) dX4_isFull_4 rfl rfl rfl ?_
  refine z_getR (q := 8) 4 0 2 3 rfl (by decide) rfl rfl rfl (by with_reducible assumption) (by with_reducible assumption) dX4_isFull_5 rfl ?_
  refine z_alen (q := 9) (by with_reducible assumption) dX4_isFull_8 rfl ?_
  refine z_icmpn_lt (rfl) (rfl) (by omega) (by omega) (tgt := 16) (q := 12) dX4_isFull_9 (by decide) rfl (fun hc => ?_) (fun hc => ?_)
  · refine z_iconst (q := 17) (v := nI 0) dX4_isFull_16 (by rfl) rfl ?_
    exact z_zret rfl (by rfl) dX4_isFull_17 (Nat.zero_le _) (Nat.zero_le _) (⟨by rw [if_neg (by omega)]; rfl, rfl, rfl, rfl, rfl⟩)
  · refine z_iconst (q := 13) (v := nI 1) dX4_isFull_12 (by rfl) rfl ?_
    refine z_goto (q := 17) dX4_isFull_13 (by decide) ?_
    exact z_zret rfl (by rfl) dX4_isFull_17 (Nat.zero_le _) (Nat.zero_le _) (⟨by rw [if_pos (by omega), zI1], rfl, rfl, rfl, rfl⟩)
set_option maxRecDepth 100000 in
set_option maxHeartbeats 4000000 in
theorem c_X4_entryAt_s (G : zG) {n : Nat} {T : zTT} {I : zII} {R : zRR} (p np k : Nat) (F : Nat → zE) (hP : z_P T I R p np F) (hk : k < np) : Ct G yX4_entryAt wsX4_entryAt (0, 0, 0) [.ref p, .int (nI k)] n T I R (z_ret (some (.ref (eAt R p k))) n T I R) := by
  refine Ct.ofX (M := muX4_entryAt) (ls := [(0, .ref p), (1, .int (nI k))]) (by decide +kernel) rfl (by decide) rfl rfl (Nat.le_of_ble_eq_true rfl) ?_
  obtain ⟨⟨hTp, hTe, hRp, -⟩, hPr, hnp, hs, -⟩ := id hP
  refine z_iload_n (q := 1) dX4_entryAt_0 rfl rfl rfl ?_
  refine z_if_lt (tgt := 30) (q := 4) dX4_entryAt_1 (by decide) rfl (fun hc => False.elim (nI_pos (n := k) (by omega) hc)) (fun _ => ?_)
  refine z_iload_n (q := 5) dX4_entryAt_4 rfl rfl rfl ?_
  refine z_aload_n (q := 6) dX4_entryAt_5 rfl rfl rfl ?_
  refine z_getV (q := 9) 4 1 1 4 rfl (by decide) rfl rfl rfl (by with_reducible assumption) (hs) dX4_entryAt_6 rfl ?_
  refine z_icmpn_ge (rfl) (rfl) (by omega) (by omega) (tgt := 30) (q := 12) dX4_entryAt_9 (by decide) rfl (fun hc => absurd hc (by omega)) (fun _ => ?_)
  refine z_iload_n (q := 13) dX4_entryAt_12 rfl rfl rfl ?_
  refine z_aload_n (q := 14) dX4_entryAt_13 rfl rfl rfl ?_
  refine z_getR (q := 17) 4 0 2 3 rfl (by decide) rfl rfl rfl (by with_reducible assumption) (by with_reducible assumption) dX4_entryAt_14 rfl ?_
  refine z_alen (q := 18) (by with_reducible assumption) dX4_entryAt_17 rfl ?_
  refine z_icmpn_ge (rfl) (rfl) (by omega) (by omega) (tgt := 30) (q := 21) dX4_entryAt_18 (by decide) rfl (fun hc => absurd hc (by omega)) (fun _ => ?_)
  refine z_aload_n (q := 22) dX4_entryAt_21 rfl rfl rfl ?_
  refine z_getR (q := 25) 4 0 2 3 rfl (by decide) rfl rfl rfl (by with_reducible assumption) (by with_reducible assumption) dX4_entryAt_22 rfl ?_
  refine z_iload_n (q := 26) dX4_entryAt_25 rfl rfl rfl ?_
  refine z_aald (q := 27) _ (by with_reducible assumption) (rfl) (by omega) (by decide) ((hPr.1 k (by omega)).1) dX4_entryAt_26 rfl ?_
  refine z_goto (q := 31) dX4_entryAt_27 (by decide) ?_
  exact z_aret rfl dX4_entryAt_31 (Nat.zero_le _) (Nat.zero_le _) (⟨rfl, rfl, rfl, rfl, rfl⟩)
set_option maxRecDepth 100000 in
set_option maxHeartbeats 4000000 in
theorem c_X4_entryAt_n (G : zG) {n : Nat} {T : zTT} {I : zII} {R : zRR} (p np : Nat) (x : Int32) (F : Nat → zE) (hP : z_P T I R p np F) (hx : x < 0 ∨ nI np ≤ x) : Ct G yX4_entryAt wsX4_entryAt (0, 0, 0) [.ref p, .int x] n T I R (z_ret (some .null) n T I R) := by
  refine Ct.ofX (M := muX4_entryAt) (ls := [(0, .ref p), (1, .int x)]) (by decide +kernel) rfl (by decide) rfl rfl (Nat.le_of_ble_eq_true rfl) ?_
  obtain ⟨⟨hTp, hTe, hRp, -⟩, hPr, hnp, hs, -⟩ := id hP
  have fin : z_X G muX4_entryAt (0, 0, 0) (z_ret (some .null) n T I R) n T I R 0 0 30 [(0, .ref p), (1, .int x)] [] := by
    refine z_null (q := 31) dX4_entryAt_30 rfl ?_
    exact z_aretN rfl dX4_entryAt_31 (Nat.zero_le _) (Nat.zero_le _) (⟨rfl, rfl, rfl, rfl, rfl⟩)
  refine z_iload_n (q := 1) dX4_entryAt_0 rfl rfl rfl ?_
  refine z_if_lt (tgt := 30) (q := 4) dX4_entryAt_1 (by decide) rfl (fun h1 => ?_) (fun h1 => ?_)
  · exact fin
  · refine z_iload_n (q := 5) dX4_entryAt_4 rfl rfl rfl ?_
    refine z_aload_n (q := 6) dX4_entryAt_5 rfl rfl rfl ?_
    refine z_getI (q := 9) 4 1 1 4 rfl (by decide) rfl rfl rfl (by with_reducible assumption) dX4_entryAt_6 rfl ?_
    rw [hs]
    refine z_icmp_ge (tgt := 30) (q := 12) dX4_entryAt_9 (by decide) rfl (fun _ => ?_) (fun hc => False.elim (absurd (hx.elim (fun z => absurd z h1) id) hc))
    exact fin
theorem z_e01 {I : zII} {a : Nat} : (entC I a).2.1 = nI 0 ↔ ¬ I a 0 = 0 := by
  unfold entC
  show (if I a 0 = 0 then nI 1 else nI 0) = nI 0 ↔ _
  by_cases h : I a 0 = 0
  · rw [if_pos h]
    exact ⟨fun z => absurd z (by decide), fun z => absurd h z⟩
  · rw [if_neg h]
    exact ⟨fun _ => h, fun _ => rfl⟩
def hsF (F : Nat → zE) : Nat → Int32
  | 0 => nI 0
  | k + 1 => if ¬ hsF F k = 0 ∨ (F k).2.1 = 0 then nI 1 else nI 0
abbrev hcC (t : Int32) (e : zE) : Prop := e.2.1 = nI 0 ∧ ¬ t < e.1 ∧ t < e.1 + e.2.2.2.1
def hearN (F : Nat → zE) (x t : Int32) (np : Nat) : Int32 := sumI (fun k => if (F k).2.2.1 = x ∧ hcC t (F k) then 1 else 0) np
theorem z_hcC {I : zII} {a : Nat} {t : Int32} : hcC t (entC I a) ↔ ¬ (I a 0 = 0 ∨ t < I a 1 ∨ I a 1 + I a 3 ≤ t) := by
  constructor
  · intro h q
    rcases q with q | q | q
    · exact z_e01.mp h.1 q
    · exact h.2.1 q
    · exact absurd h.2.2 (Int32.not_lt.mpr q)
  · intro h
    exact ⟨z_e01.mpr (fun z => h (Or.inl z)), fun z => h (Or.inr (Or.inl z)), Int32.not_le.mp (fun z => h (Or.inr (Or.inr z)))⟩
set_option maxRecDepth 100000 in
set_option maxHeartbeats 4000000 in
theorem c_X4_soundsHeard (G : zG) {n : Nat} {T : zTT} {I : zII} {R : zRR} (p np : Nat) (x t : Int32) (F : Nat → zE) (hP : z_P T I R p np F) : Ct G yX4_soundsHeard wsX4_soundsHeard (1, 0, 0) [.ref p, .int x, .int t] n T I R (z_ret (some (.int (hearN F x t np))) n T I R) := by
  refine Ct.ofX (M := muX4_soundsHeard) (ls := [(0, .ref p), (1, .int x), (2, .int t)]) (by decide +kernel) rfl (by decide) rfl rfl (Nat.le_of_ble_eq_true rfl) ?_
  obtain ⟨⟨hTp, hTe, hRp, -⟩, hPr, hnp, hs, h01, hF⟩ := id hP
  refine z_iconst (q := 1) (v := nI 0) dX4_soundsHeard_0 (by rfl) rfl ?_
  refine z_istore_n (q := 2) dX4_soundsHeard_1 rfl (by decide) rfl ?_
  refine z_iconst (q := 3) (v := nI 0) dX4_soundsHeard_2 (by rfl) rfl ?_
  refine z_istore (q := 5) dX4_soundsHeard_3 (by decide) rfl ?_
  refine z_up (N := np) (P := fun i => z_X G muX4_soundsHeard (1, 0, 0) (z_ret (some (.int (hearN F x t np))) n T I R) n T I R 0 0 5 [(0, .ref p), (1, .int x), (2, .int t), (3, .int (hearN F x t i)), (4, .int (nI i))] []) ?_ ?_ 0 (Nat.zero_le _)
  · refine z_iload (q := 7) (i := 4) dX4_soundsHeard_5 rfl rfl ?_
    refine z_aload_n (q := 8) dX4_soundsHeard_7 rfl rfl rfl ?_
    refine z_getV (q := 11) 4 1 1 13 rfl (by decide) rfl rfl rfl (by with_reducible assumption) (hs) dX4_soundsHeard_8 rfl ?_
    refine z_icmpn_ge (rfl) (rfl) (by omega) (by omega) (tgt := 61) (q := 14) dX4_soundsHeard_11 (by decide) rfl (fun _ => ?_) (fun hc => absurd hc (by omega))
    refine z_iload_n (q := 62) dX4_soundsHeard_61 rfl rfl rfl ?_
    exact z_iret rfl dX4_soundsHeard_62 (Nat.zero_le _) (Nat.zero_le _) (⟨rfl, rfl, rfl, rfl, rfl⟩)
  · intro i hi ih
    refine z_iload (q := 7) (i := 4) dX4_soundsHeard_5 rfl rfl ?_
    refine z_aload_n (q := 8) dX4_soundsHeard_7 rfl rfl rfl ?_
    refine z_getV (q := 11) 4 1 1 13 rfl (by decide) rfl rfl rfl (by with_reducible assumption) (hs) dX4_soundsHeard_8 rfl ?_
    refine z_icmpn_ge (rfl) (rfl) (by omega) (by omega) (tgt := 61) (q := 14) dX4_soundsHeard_11 (by decide) rfl (fun hc => absurd hc (by omega)) (fun _ => ?_)
    refine z_iload (q := 16) (i := 4) dX4_soundsHeard_14 rfl rfl ?_
    refine z_aload_n (q := 17) dX4_soundsHeard_16 rfl rfl rfl ?_
    refine z_getR (q := 20) 4 0 2 12 rfl (by decide) rfl rfl rfl (by with_reducible assumption) (by with_reducible assumption) dX4_soundsHeard_17 rfl ?_
    refine z_alen (q := 21) (by with_reducible assumption) dX4_soundsHeard_20 rfl ?_
    refine z_icmpn_ge (rfl) (rfl) (by omega) (by omega) (tgt := 61) (q := 24) dX4_soundsHeard_21 (by decide) rfl (fun hc => absurd hc (by omega)) (fun _ => ?_)
    have hTi := z_eT hP (show i < 16 by omega)
    have hs1 : hearN F x t (i + 1) = hearN F x t i + (if (F i).2.2.1 = x ∧ hcC t (F i) then 1 else 0) := rfl
    rw [← hF i hi] at hs1
    have no : ¬ ((entC I (eAt R p i)).2.2.1 = x ∧ hcC t (entC I (eAt R p i))) → z_X G muX4_soundsHeard (1, 0, 0) (z_ret (some (.int (hearN F x t np))) n T I R) n T I R 0 0 55 [(0, .ref p), (1, .int x), (2, .int t), (3, .int (hearN F x t i)), (4, .int (nI i))] [] := by
      intro h
      refine z_iinc (q := 58) dX4_soundsHeard_55 rfl (nI_add _ 1) (by decide) rfl ?_
      refine z_goto (q := 5) dX4_soundsHeard_58 (by decide) ?_
      have e : hearN F x t (i + 1) = hearN F x t i := by rw [hs1, if_neg h, Int32.add_zero]
      rw [e] at ih
      exact ih
    refine z_aload_n (q := 25) dX4_soundsHeard_24 rfl rfl rfl ?_
    refine z_getR (q := 28) 4 0 2 12 rfl (by decide) rfl rfl rfl (by with_reducible assumption) (by with_reducible assumption) dX4_soundsHeard_25 rfl ?_
    refine z_iload (q := 30) (i := 4) dX4_soundsHeard_28 rfl rfl ?_
    refine z_aald (q := 31) _ (by with_reducible assumption) (rfl) (by omega) (by decide) ((hPr.1 i (by omega)).1) dX4_soundsHeard_30 rfl ?_
    refine z_getI (q := 34) 1 2 3 16 rfl (by decide) rfl rfl rfl (by with_reducible assumption) dX4_soundsHeard_31 rfl ?_
    refine z_iload_n (q := 35) dX4_soundsHeard_34 rfl rfl rfl ?_
    refine z_icmp_ne (tgt := 55) (q := 38) dX4_soundsHeard_35 (by decide) rfl (fun hc => ?_) (fun hc => ?_)
    · exact no (fun z => hc z.1)
    · refine z_aload_n (q := 39) dX4_soundsHeard_38 rfl rfl rfl ?_
      refine z_getR (q := 42) 4 0 2 12 rfl (by decide) rfl rfl rfl (by with_reducible assumption) (by with_reducible assumption) dX4_soundsHeard_39 rfl ?_
      refine z_iload (q := 44) (i := 4) dX4_soundsHeard_42 rfl rfl ?_
      refine z_aald (q := 45) _ (by with_reducible assumption) (rfl) (by omega) (by decide) ((hPr.1 i (by omega)).1) dX4_soundsHeard_44 rfl ?_
      refine z_iload_n (q := 46) dX4_soundsHeard_45 rfl rfl rfl ?_
      refine z_invV (q := 49) (c_X1_isHeardIn G (eAt R p i) t hTi) (by with_reducible assumption) rfl gX4_soundsHeard_X1_isHeardIn rfl hy_X1_isHeardIn rfl rfl rfl rfl (Nat.le_of_ble_eq_true rfl) ⟨Nat.zero_le _, Nat.zero_le _⟩ dX4_soundsHeard_46 rfl (z_rv ?_)
      by_cases hh : I (eAt R p i) 0 = 0 ∨ t < I (eAt R p i) 1 ∨ I (eAt R p i) 1 + I (eAt R p i) 3 ≤ t
      · rw [if_pos hh]
        refine z_if_eq (tgt := 55) (q := 52) dX4_soundsHeard_49 (by decide) rfl (fun _ => ?_) (fun hc => False.elim (hc rfl))
        exact no (fun z => z_hcC.mp z.2 hh)
      · rw [if_neg hh]
        refine z_if_eq (tgt := 55) (q := 52) dX4_soundsHeard_49 (by decide) rfl (fun hc => False.elim (absurd hc (by decide))) (fun _ => ?_)
        refine z_iinc (q := 55) dX4_soundsHeard_52 rfl rfl (by decide) rfl ?_
        refine z_iinc (q := 58) dX4_soundsHeard_55 rfl (nI_add _ 1) (by decide) rfl ?_
        refine z_goto (q := 5) dX4_soundsHeard_58 (by decide) ?_
        have e : hearN F x t (i + 1) = hearN F x t i + Int32.ofInt 1 := by rw [hs1, if_pos ⟨hc, z_hcC.mpr hh⟩]; rfl
        rw [e] at ih
        exact ih
def drS (np k : Nat) (j : Nat) : Nat := if k ≤ j ∧ j + 1 < np then j + 1 else if j + 1 = np then k else j
set_option maxRecDepth 100000 in
set_option maxHeartbeats 4000000 in
theorem c_X4_drop (G : zG) {n : Nat} {T : zTT} {I : zII} {R : zRR} (p np k : Nat) (F : Nat → zE) (hP : z_P T I R p np F) (hk : k < np) : Ct G yX4_drop wsX4_drop (1, 0, 0) [.ref p, .int (nI k)] n T I R (z_rel none n T (fun I' R' => z_P T I' R' p (np - 1) (dropF F k) ∧ (∀ q, q ≠ p → I' q = I q) ∧ ∀ q, q ≠ p + 1 → R' q = R q)) := by
  refine Ct.ofX (M := muX4_drop) (ls := [(0, .ref p), (1, .int (nI k))]) (by decide +kernel) rfl (by decide) rfl rfl (Nat.le_of_ble_eq_true rfl) ?_
  obtain ⟨⟨hTp, hTe, hRp, hTa⟩, hPr, hnp, hs, h01, hF⟩ := id hP
  have hTk := z_eT hP (show k < 16 by omega)
  refine z_aload_n (q := 1) dX4_drop_0 rfl rfl rfl ?_
  refine z_iload_n (q := 2) dX4_drop_1 rfl rfl rfl ?_
  refine z_invV (q := 5) (c_X4_entryAt_s G p np k F hP hk) (by with_reducible assumption) rfl gX4_drop_X4_entryAt rfl hy_X4_entryAt rfl rfl rfl rfl (Nat.le_of_ble_eq_true rfl) ⟨Nat.zero_le _, Nat.zero_le _⟩ dX4_drop_2 rfl (z_rv ?_)
  refine z_ifnonnull (q := 9) dX4_drop_5 (by decide) ?_
  refine z_aload_n (q := 10) dX4_drop_9 rfl rfl rfl ?_
  refine z_getR (q := 13) 4 0 1 8 rfl (by decide) rfl rfl rfl (by with_reducible assumption) (by with_reducible assumption) dX4_drop_10 rfl ?_
  refine z_iload_n (q := 14) dX4_drop_13 rfl rfl rfl ?_
  refine z_aald (q := 15) _ (by with_reducible assumption) (rfl) (by omega) (by decide) ((hPr.1 k (by omega)).1) dX4_drop_14 rfl ?_
  refine z_astore_n (q := 16) dX4_drop_15 rfl (by decide) rfl ?_
  refine z_iload_n (q := 17) dX4_drop_16 rfl rfl rfl ?_
  refine z_istore_n (q := 18) dX4_drop_17 rfl (by decide) rfl ?_
  have loop : ∀ i, i ≤ np - 1 → k ≤ i → ∀ R2 : zRR, (∀ j, j < 16 → R2 (p + 1) j = R (p + 1) (if k ≤ j ∧ j < i then j + 1 else j)) → (∀ q, q ≠ p + 1 → R2 q = R q) → z_X G muX4_drop (1, 0, 0) (z_rel none n T (fun I' R' => z_P T I' R' p (np - 1) (dropF F k) ∧ (∀ q, q ≠ p → I' q = I q) ∧ ∀ q, q ≠ p + 1 → R' q = R q)) n T I R2 0 0 18 [(0, .ref p), (1, .int (nI k)), (2, .ref (eAt R p k)), (3, .int (nI i))] [] := by
    refine z_up (N := np - 1) _ ?_ ?_
    · intro hki R2 e1 e2
      have hRp2 : R2 p 0 = some (p + 1) := by rw [e2 p (by omega)]; exact hRp
      refine z_iload_n (q := 19) dX4_drop_18 rfl rfl rfl ?_
      refine z_iconst (q := 20) (v := nI 1) dX4_drop_19 (by rfl) rfl ?_
      refine z_iaddE (q := 21) dX4_drop_20 (nI_add _ _) rfl ?_
      refine z_aload_n (q := 22) dX4_drop_21 rfl rfl rfl ?_
      refine z_getV (q := 25) 4 1 2 9 rfl (by decide) rfl rfl rfl (by with_reducible assumption) (hs) dX4_drop_22 rfl ?_
      refine z_icmpn_ge (rfl) (rfl) (by omega) (by omega) (tgt := 59) (q := 28) dX4_drop_25 (by decide) rfl (fun _ => ?_) (fun hc => absurd hc (by omega))
      have e0 : zw I p 1 (nI (np - 1)) p 1 = nI (np - 1) := zw_s _ _ _ _
      refine z_aload_n (q := 60) dX4_drop_59 rfl rfl rfl ?_
      refine z_dup (q := 61) dX4_drop_60 rfl rfl ?_
      refine z_getV (q := 64) 4 1 2 9 rfl (by decide) rfl rfl rfl (by with_reducible assumption) (hs) dX4_drop_61 rfl ?_
      refine z_iconst (q := 65) (v := nI 1) dX4_drop_64 (by rfl) rfl ?_
      refine z_isubE (q := 66) dX4_drop_65 (pk_sub (by omega)) rfl ?_
      refine z_put (q := 69) 4 1 2 9 rfl (by decide) rfl rfl (tyX4_ok 1 (by decide)) (rfl) (rfl) rfl (by with_reducible assumption) dX4_drop_66 rfl ?_
      refine z_aload_n (q := 70) dX4_drop_69 rfl rfl rfl ?_
      refine z_getV (q := 73) 4 1 2 9 rfl (by decide) rfl rfl rfl (by with_reducible assumption) (e0) dX4_drop_70 rfl ?_
      refine z_if_lt (tgt := 98) (q := 76) dX4_drop_73 (by decide) rfl (fun hc => False.elim (nI_pos (n := np - 1) (by omega) hc)) (fun _ => ?_)
      refine z_aload_n (q := 77) dX4_drop_76 rfl rfl rfl ?_
      refine z_getV (q := 80) 4 1 2 9 rfl (by decide) rfl rfl rfl (by with_reducible assumption) (e0) dX4_drop_77 rfl ?_
      refine z_aload_n (q := 81) dX4_drop_80 rfl rfl rfl ?_
      refine z_getR (q := 84) 4 0 1 8 rfl (by decide) rfl rfl rfl (by with_reducible assumption) (by with_reducible assumption) dX4_drop_81 rfl ?_
      refine z_alen (q := 85) (by with_reducible assumption) dX4_drop_84 rfl ?_
      refine z_icmpn_ge (rfl) (rfl) (by omega) (by omega) (tgt := 98) (q := 88) dX4_drop_85 (by decide) rfl (fun hc => absurd hc (by omega)) (fun _ => ?_)
      refine z_aload_n (q := 89) dX4_drop_88 rfl rfl rfl ?_
      refine z_getR (q := 92) 4 0 1 8 rfl (by decide) rfl rfl rfl (by with_reducible assumption) (by with_reducible assumption) dX4_drop_89 rfl ?_
      refine z_aload_n (q := 93) dX4_drop_92 rfl rfl rfl ?_
      refine z_getV (q := 96) 4 1 2 9 rfl (by decide) rfl rfl rfl (by with_reducible assumption) (e0) dX4_drop_93 rfl ?_
      refine z_aload_n (q := 97) dX4_drop_96 rfl rfl rfl ?_
      refine z_aast (q := 98) (ci := 1) (r := (RX1, _, _)) _ (by with_reducible assumption) rfl (by with_reducible assumption) (rfl) (by omega) (by decide) dX4_drop_97 rfl ?_
      refine z_vret rfl dX4_drop_98 (Nat.zero_le _) (Nat.zero_le _) ⟨rfl, rfl, rfl, ?_, fun q hq => by rw [zw_row _ _ hq], fun q hq => by rw [zw_row _ _ hq]; exact e2 q hq⟩
      have hR' : ∀ j, j < 16 → zw R2 (p + 1) (np - 1) (some (eAt R p k)) (p + 1) j = R (p + 1) (drS np k j) := by
        intro j hj
        by_cases hj1 : j = np - 1
        · rw [hj1, zw_s, drS, if_neg (by omega), if_pos (by omega)]
          exact (hPr.1 k (by omega)).1.symm
        · rw [zw_k _ _ hj1, e1 j hj, drS]
          by_cases h : k ≤ j ∧ j < np - 1
          · rw [if_pos h, if_pos (by omega)]
          · rw [if_neg h, if_neg (by omega), if_neg (by omega)]
      obtain ⟨g1, g2⟩ := z_Prm_s (drS np k) hPr hR' (fun j hj => by unfold drS; split; omega; split <;> omega) (fun a b ha hb h => by unfold drS at h; split at h <;> split at h <;> (try split at h) <;> (try split at h) <;> omega)
      have hne : ∀ j, j < 16 → eAt R p j ≠ p := fun j hj z => by have := (hPr.1 j hj).2.1; omega
      have hd : ∀ j, j < 16 → drS np k j < 16 := fun j hj => by unfold drS; split; omega; split <;> omega
      refine ⟨⟨hTp, hTe, by rw [zw_row _ _ (by omega)]; exact hRp2, hTa⟩, g1, by omega, e0, fun j hj => ?_, fun j hj => ?_⟩
      · rw [g2 j hj, zw_row _ _ (hne _ (hd j hj))]
        exact h01 _ (hd j hj)
      · rw [g2 j (by omega)]
        unfold entC
        rw [zw_row _ _ (hne _ (hd j (by omega)))]
        show entC I (eAt R p (drS np k j)) = _
        unfold drS dropF
        by_cases h : j < k
        · rw [if_neg (by omega), if_neg (by omega), if_pos h]
          exact hF j (by omega)
        · rw [if_pos (by omega), if_neg h]
          exact hF _ (by omega)
    · intro i hi ih hki R2 e1 e2
      have hRp2 : R2 p 0 = some (p + 1) := by rw [e2 p (by omega)]; exact hRp
      have hTi := z_eT hP (show i + 1 < 16 by omega)
      have hRi : R2 (p + 1) (i + 1) = some (eAt R p (i + 1)) := by rw [e1 _ (by omega), if_neg (by omega)]; exact (hPr.1 _ (by omega)).1
      refine z_iload_n (q := 19) dX4_drop_18 rfl rfl rfl ?_
      refine z_iconst (q := 20) (v := nI 1) dX4_drop_19 (by rfl) rfl ?_
      refine z_iaddE (q := 21) dX4_drop_20 (nI_add _ _) rfl ?_
      refine z_aload_n (q := 22) dX4_drop_21 rfl rfl rfl ?_
      refine z_getV (q := 25) 4 1 2 9 rfl (by decide) rfl rfl rfl (by with_reducible assumption) (hs) dX4_drop_22 rfl ?_
      refine z_icmpn_ge (rfl) (rfl) (by omega) (by omega) (tgt := 59) (q := 28) dX4_drop_25 (by decide) rfl (fun hc => absurd hc (by omega)) (fun _ => ?_)
      refine z_iload_n (q := 29) dX4_drop_28 rfl rfl rfl ?_
      refine z_iconst (q := 30) (v := nI 1) dX4_drop_29 (by rfl) rfl ?_
      refine z_iaddE (q := 31) dX4_drop_30 (nI_add _ _) rfl ?_
      refine z_aload_n (q := 32) dX4_drop_31 rfl rfl rfl ?_
      refine z_getR (q := 35) 4 0 1 8 rfl (by decide) rfl rfl rfl (by with_reducible assumption) (by with_reducible assumption) dX4_drop_32 rfl ?_
      refine z_alen (q := 36) (by with_reducible assumption) dX4_drop_35 rfl ?_
      refine z_icmpn_ge (rfl) (rfl) (by omega) (by omega) (tgt := 59) (q := 39) dX4_drop_36 (by decide) rfl (fun hc => absurd hc (by omega)) (fun _ => ?_)
      refine z_aload_n (q := 40) dX4_drop_39 rfl rfl rfl ?_
      refine z_getR (q := 43) 4 0 1 8 rfl (by decide) rfl rfl rfl (by with_reducible assumption) (by with_reducible assumption) dX4_drop_40 rfl ?_
      refine z_iload_n (q := 44) dX4_drop_43 rfl rfl rfl ?_
      refine z_aload_n (q := 45) dX4_drop_44 rfl rfl rfl ?_
      refine z_getR (q := 48) 4 0 1 8 rfl (by decide) rfl rfl rfl (by with_reducible assumption) (by with_reducible assumption) dX4_drop_45 rfl ?_
      refine z_iload_n (q := 49) dX4_drop_48 rfl rfl rfl ?_
      refine z_iconst (q := 50) (v := nI 1) dX4_drop_49 (by rfl) rfl ?_
      refine z_iaddE (q := 51) dX4_drop_50 (nI_add _ _) rfl ?_
      refine z_aald (q := 52) _ (by with_reducible assumption) (rfl) (by omega) (by decide) (hRi) dX4_drop_51 rfl ?_
      refine z_aast (q := 53) (ci := 1) (r := (RX1, _, _)) _ (by with_reducible assumption) rfl (by with_reducible assumption) (rfl) (by omega) (by decide) dX4_drop_52 rfl ?_
      refine z_iinc (q := 56) dX4_drop_53 rfl (nI_add _ 1) (by decide) rfl ?_
      refine z_goto (q := 18) dX4_drop_56 (by decide) ?_
      refine ih (by omega) _ (fun j hj => ?_) (fun q hq => by rw [zw_row _ _ hq]; exact e2 q hq)
      by_cases hji : j = i
      · rw [hji, zw_s, if_pos (by omega)]
        exact (hPr.1 _ (by omega)).1.symm
      · rw [zw_k _ _ hji, e1 j hj]
        by_cases h : k ≤ j ∧ j < i
        · rw [if_pos h, if_pos (by omega)]
        · rw [if_neg h, if_neg (by omega)]
  refine loop k (by omega) (Nat.le_refl _) R (fun j hj => ?_) (fun _ _ => rfl)
  rw [if_neg (by omega)]
theorem pl_get {F : Nat → zE} {np k : Nat} (h : k < np) : (pl F np)[k]? = some (F k) := by
  unfold pl
  rw [List.getElem?_map, List.getElem?_range h]
  rfl
theorem pl_getN {F : Nat → zE} {np k : Nat} (h : np ≤ k) : (pl F np)[k]? = none := by
  unfold pl
  rw [List.getElem?_map, List.getElem?_eq_none (by rw [List.length_range]; exact h)]
  rfl
theorem pl_len (F : Nat → zE) (np : Nat) : (pl F np).length = np := by simp [pl]
theorem pl_drop (F : Nat → zE) {k np : Nat} (hk : k < np) : pl (dropF F k) (np - 1) = (pl F np).eraseIdx k := by
  apply List.ext_getElem?
  intro j
  rw [List.getElem?_eraseIdx]
  by_cases hj : j < np - 1
  · rw [pl_get hj, dropF]
    by_cases h : j < k
    · rw [if_pos h, if_pos h, pl_get (by omega)]
    · rw [if_neg h, if_neg h, pl_get (by omega)]
  · rw [pl_getN (by omega)]
    by_cases h : j < k
    · exfalso; omega
    · rw [if_neg h, pl_getN (by omega)]
abbrev endC (t : Int32) (e : zE) : Prop := if e.2.1 = nI 0 then ¬ t < e.1 + e.2.2.2.1 - 1 else ¬ t < e.1
def keepC (t : Int32) (e : zE) : Bool := !decide (endC t e)
theorem z_endC {I : zII} {a : Nat} {t : Int32} : (if I a 0 = 0 then (if t < I a 1 then (0 : Int32) else 1) else if t < I a 1 + I a 3 - 1 then 0 else 1) = if endC t (entC I a) then 1 else 0 := by
  unfold endC
  by_cases h : I a 0 = 0
  · have h2 : ¬ (entC I a).2.1 = nI 0 := fun z => z_e01.mp z h
    rw [if_pos h]
    by_cases h3 : t < I a 1
    · rw [if_pos h3, if_neg (fun z => by rw [if_neg h2] at z; exact z h3)]
    · rw [if_neg h3, if_pos (by rw [if_neg h2]; exact h3)]
  · have h2 : (entC I a).2.1 = nI 0 := z_e01.mpr h
    rw [if_neg h]
    by_cases h3 : t < I a 1 + I a 3 - 1
    · rw [if_pos h3, if_neg (fun z => by rw [if_pos h2] at z; exact z h3)]
    · rw [if_neg h3, if_pos (by rw [if_pos h2]; exact h3)]
set_option maxRecDepth 100000 in
set_option maxHeartbeats 4000000 in
theorem c_X4_dropEnded (G : zG) {n : Nat} {T : zTT} {I : zII} {R : zRR} (p np : Nat) (t : Int32) (F : Nat → zE) (hP : z_P T I R p np F) : Ct G yX4_dropEnded wsX4_dropEnded (2, 0, 0) [.ref p, .int t] n T I R (z_rel none n T (fun I' R' => (∃ np' F', z_P T I' R' p np' F' ∧ pl F' np' = (pl F np).filter (keepC t)) ∧ (∀ q, q ≠ p → I' q = I q) ∧ ∀ q, q ≠ p + 1 → R' q = R q)) := by
  refine Ct.ofX (M := muX4_dropEnded) (ls := [(0, .ref p), (1, .int t)]) (by decide +kernel) rfl (by decide) rfl rfl (Nat.le_of_ble_eq_true rfl) ?_
  have hTp := hP.1.1
  have hs := hP.2.2.2.1
  have hnp := hP.2.2.1
  have loop : ∀ i np' F' I2 R2, z_P T I2 R2 p np' F' → i ≤ np' → (∀ j, j < i → F' j = F j) → (pl F' np').drop i = ((pl F np).drop i).filter (keepC t) → i ≤ np → (∀ q, q ≠ p → I2 q = I q) → (∀ q, q ≠ p + 1 → R2 q = R q) → ∀ x : Int32, x = nI i - nI 1 → ∀ ls : List (Nat × Value), lv_pick ls [0, 1, 2] = [(0, .ref p), (1, .int t), (2, .int x)] → z_X G muX4_dropEnded (2, 0, 0) (z_rel none n T (fun I' R' => (∃ np' F', z_P T I' R' p np' F' ∧ pl F' np' = (pl F np).filter (keepC t)) ∧ (∀ q, q ≠ p → I' q = I q) ∧ ∀ q, q ≠ p + 1 → R' q = R q)) n T I2 R2 0 0 7 ls [] := by
    intro i
    induction i with
    | zero =>
      intro np' F' I2 R2 hP2 hi hF hL hin e1 e2 x hx ls hls
      refine z_pick [0, 1, 2] hls ?_
      refine z_iload_n (q := 8) dX4_dropEnded_7 rfl rfl rfl ?_
      refine z_if_lt (tgt := 40) (q := 11) dX4_dropEnded_8 (by decide) rfl (fun _ => ?_) (fun hc => False.elim (hc (by rw [hx]; decide)))
      exact z_vret rfl dX4_dropEnded_40 (Nat.zero_le _) (Nat.zero_le _) ⟨rfl, rfl, rfl, ⟨np', F', hP2, hL⟩, e1, e2⟩
    | succ i ih =>
      intro np' F' I2 R2 hP2 hi hF hL hin e1 e2 x hx ls hls
      have hx2 : x = nI i := by rw [hx, pk_sub (by omega)]; rfl
      subst hx2
      have hnp2 := hP2.2.2.1
      have hTi := z_eT hP2 (show i < 16 by omega)
      have hFi : entC I2 (eAt R2 p i) = F i := by rw [hP2.2.2.2.2.2 i (by omega)]; exact hF i (by omega)
      have hgi : (pl F np)[i]? = some (F i) := pl_get (by omega)
      have hgi' : (pl F' np')[i]? = some (F i) := by rw [pl_get (by omega), hF i (by omega)]
      refine z_pick [0, 1, 2] hls ?_
      refine z_iload_n (q := 8) dX4_dropEnded_7 rfl rfl rfl ?_
      refine z_if_lt (tgt := 40) (q := 11) dX4_dropEnded_8 (by decide) rfl (fun hc => False.elim (nI_pos (n := i) (by omega) hc)) (fun _ => ?_)
      refine z_aload_n (q := 12) dX4_dropEnded_11 rfl rfl rfl ?_
      refine z_iload_n (q := 13) dX4_dropEnded_12 rfl rfl rfl ?_
      refine z_invV (q := 16) (c_X4_entryAt_s G p np' i F' hP2 (by omega)) (by with_reducible assumption) rfl gX4_dropEnded_X4_entryAt rfl hy_X4_entryAt rfl rfl rfl rfl (Nat.le_of_ble_eq_true rfl) ⟨Nat.zero_le _, Nat.zero_le _⟩ dX4_dropEnded_13 rfl (z_rv ?_)
      refine z_astore_n (q := 17) dX4_dropEnded_16 rfl (by decide) rfl ?_
      refine z_aload_n (q := 18) dX4_dropEnded_17 rfl rfl rfl ?_
      refine z_ifnull (q := 21) dX4_dropEnded_18 rfl ?_
      refine z_aload_n (q := 22) dX4_dropEnded_21 rfl rfl rfl ?_
      refine z_iload_n (q := 23) dX4_dropEnded_22 rfl rfl rfl ?_
      refine z_invV (q := 26) (c_X1_endsWith G (eAt R2 p i) t hTi) (by with_reducible assumption) rfl gX4_dropEnded_X1_endsWith rfl hy_X1_endsWith rfl rfl rfl rfl (Nat.le_of_ble_eq_true rfl) ⟨Nat.zero_le _, Nat.zero_le _⟩ dX4_dropEnded_23 rfl (z_rv ?_)
      rw [z_endC, hFi]
      by_cases hE : endC t (F i)
      · rw [if_pos hE]
        refine z_if_eq (tgt := 34) (q := 29) dX4_dropEnded_26 (by decide) rfl (fun hc => False.elim (absurd hc (by decide))) (fun _ => ?_)
        refine z_aload_n (q := 30) dX4_dropEnded_29 rfl rfl rfl ?_
        refine z_iload_n (q := 31) dX4_dropEnded_30 rfl rfl rfl ?_
        refine z_invV (q := 34) (c_X4_drop G p np' i F' hP2 (by omega)) (by with_reducible assumption) rfl gX4_dropEnded_X4_drop rfl hy_X4_drop rfl rfl rfl rfl (Nat.le_of_ble_eq_true rfl) ⟨Nat.zero_le _, Nat.zero_le _⟩ dX4_dropEnded_31 rfl (z_rnR fun I3 R3 hZ3 => ?_)
        obtain ⟨h3, f1, f2⟩ := hZ3
        refine z_iinc (q := 37) dX4_dropEnded_34 rfl (z_sub1 _) (by decide) rfl ?_
        refine z_goto (q := 7) dX4_dropEnded_37 (by decide) ?_
        refine ih (np' - 1) (dropF F' i) I3 R3 h3 (by omega) (fun j hj => by rw [dropF, if_pos hj]; exact hF j (by omega)) ?_ (by omega) (fun q hq => by rw [f1 q hq]; exact e1 q hq) (fun q hq => by rw [f2 q hq]; exact e2 q hq) _ rfl _ rfl
        rw [pl_drop _ (by omega), drop_erase, hL, drop_at _ _ _ hgi, List.filter_cons, if_neg]
        unfold keepC
        rw [decide_eq_true hE]
        decide
      · rw [if_neg hE]
        refine z_if_eq (tgt := 34) (q := 29) dX4_dropEnded_26 (by decide) rfl (fun _ => ?_) (fun hc => False.elim (hc rfl))
        refine z_iinc (q := 37) dX4_dropEnded_34 rfl (z_sub1 _) (by decide) rfl ?_
        refine z_goto (q := 7) dX4_dropEnded_37 (by decide) ?_
        refine ih np' F' I2 R2 hP2 (by omega) (fun j hj => hF j (by omega)) ?_ (by omega) e1 e2 _ rfl _ rfl
        rw [drop_at _ _ _ hgi', hL, drop_at _ _ _ hgi, List.filter_cons, if_pos]
        unfold keepC
        rw [decide_eq_false hE]
        rfl
  refine z_aload_n (q := 1) dX4_dropEnded_0 rfl rfl rfl ?_
  refine z_getV (q := 4) 4 1 1 21 rfl (by decide) rfl rfl rfl (by with_reducible assumption) (hs) dX4_dropEnded_1 rfl ?_
  refine z_iconst (q := 5) (v := nI 1) dX4_dropEnded_4 (by rfl) rfl ?_
  refine z_isub (q := 6) dX4_dropEnded_5 rfl ?_
  refine z_istore_n (q := 7) dX4_dropEnded_6 rfl (by decide) rfl ?_
  refine loop np np F I R hP (Nat.le_refl _) (fun _ _ => rfl) ?_ (Nat.le_refl _) (fun _ _ => rfl) (fun _ _ => rfl) _ rfl _ rfl
  rw [List.drop_eq_nil_of_le (by rw [pl_len]; omega)]
  rfl
def inS (np pos : Nat) (j : Nat) : Nat := if j = pos then np else if pos < j ∧ j ≤ np then j - 1 else j
set_option maxRecDepth 100000 in
set_option maxHeartbeats 4000000 in
theorem c_X4_insert (G : zG) {n : Nat} {T : zTT} {I : zII} {R : zRR} (p np b pos : Nat) (F : Nat → zE) (hP : z_P T I R p np F) (hnp : np < 16) (hb : b < p ∨ p + 18 ≤ b) (hTb : T b = some (.inl 1)) (hb01 : I b 0 = 0 ∨ I b 0 = 1) (hpos : pos ≤ np) (h1 : ∀ j, pos ≤ j → j < np → I b 1 < (F j).1) (h2 : 0 < pos → ¬ I b 1 < (F (pos - 1)).1) : Ct G yX4_insert wsX4_insert (1, 0, 0) [.ref p, .ref b] n T I R (z_rel none n T (fun I' R' => z_P T I' R' p (np + 1) (insF F pos (entC I b)) ∧ (∀ q, q < p ∨ p + 18 ≤ q → I' q = I q) ∧ ∀ q, q ≠ p + 1 → R' q = R q)) := by
  refine Ct.ofX (M := muX4_insert) (ls := [(0, .ref p), (1, .ref b)]) (by decide +kernel) rfl (by decide) rfl rfl (Nat.le_of_ble_eq_true rfl) ?_
  obtain ⟨⟨hTp, hTe, hRp, hTa⟩, hPr, -, hs, h01, hF⟩ := id hP
  have hTf := z_eT hP (show np < 16 by omega)
  have hin := hPr.1 np (by omega)
  refine z_aload_n (q := 1) dX4_insert_0 rfl rfl rfl ?_
  refine z_getV (q := 4) 4 1 1 15 rfl (by decide) rfl rfl rfl (by with_reducible assumption) (hs) dX4_insert_1 rfl ?_
  refine z_if_lt (tgt := 19) (q := 7) dX4_insert_4 (by decide) rfl (fun hc => False.elim (nI_pos (n := np) (by omega) hc)) (fun _ => ?_)
  refine z_aload_n (q := 8) dX4_insert_7 rfl rfl rfl ?_
  refine z_getV (q := 11) 4 1 1 15 rfl (by decide) rfl rfl rfl (by with_reducible assumption) (hs) dX4_insert_8 rfl ?_
  refine z_aload_n (q := 12) dX4_insert_11 rfl rfl rfl ?_
  refine z_getR (q := 15) 4 0 2 14 rfl (by decide) rfl rfl rfl (by with_reducible assumption) (by with_reducible assumption) dX4_insert_12 rfl ?_
  refine z_alen (q := 16) (by with_reducible assumption) dX4_insert_15 rfl ?_
  refine z_icmpn_lt (rfl) (rfl) (by omega) (by omega) (tgt := 20) (q := 19) dX4_insert_16 (by decide) rfl (fun _ => ?_) (fun hc => absurd hc (by omega))
  refine z_aload_n (q := 21) dX4_insert_20 rfl rfl rfl ?_
  refine z_getR (q := 24) 4 0 2 14 rfl (by decide) rfl rfl rfl (by with_reducible assumption) (by with_reducible assumption) dX4_insert_21 rfl ?_
  refine z_aload_n (q := 25) dX4_insert_24 rfl rfl rfl ?_
  refine z_getV (q := 28) 4 1 1 15 rfl (by decide) rfl rfl rfl (by with_reducible assumption) (hs) dX4_insert_25 rfl ?_
  refine z_aald (q := 29) _ (by with_reducible assumption) (rfl) (by omega) (by decide) (hin.1) dX4_insert_28 rfl ?_
  refine z_astore_n (q := 30) dX4_insert_29 rfl (by decide) rfl ?_
  refine z_aload_n (q := 31) dX4_insert_30 rfl rfl rfl ?_
  refine z_aload_n (q := 32) dX4_insert_31 rfl rfl rfl ?_
  refine z_invV (q := 35) (c_X1_copyFrom G (eAt R p np) b hTf hTb hb01) (by with_reducible assumption) rfl gX4_insert_X1_copyFrom rfl hy_X1_copyFrom rfl rfl rfl rfl (Nat.le_of_ble_eq_true rfl) ⟨Nat.zero_le _, Nat.zero_le _⟩ dX4_insert_32 rfl (z_rn ?_)
  have g1 : ∀ q k, q ≠ eAt R p np → (fun q k => if q = eAt R p np ∧ k < 5 then I b k else I q k) q k = I q k := fun q k hq => by
    show (if q = eAt R p np ∧ k < 5 then I b k else I q k) = I q k
    rw [if_neg (fun z => hq z.1)]
  have g2 : ∀ k, k < 5 → (fun q k => if q = eAt R p np ∧ k < 5 then I b k else I q k) (eAt R p np) k = I b k := fun k hk => by
    show (if eAt R p np = eAt R p np ∧ k < 5 then I b k else I (eAt R p np) k) = I b k
    rw [if_pos ⟨rfl, hk⟩]
  generalize (fun q k => if q = eAt R p np ∧ k < 5 then I b k else I q k : zII) = I1 at g1 g2 ⊢
  have hs1 : I1 p 1 = nI np := by rw [g1 p 1 (by omega)]; exact hs
  have hfs : I1 (eAt R p np) 1 = I b 1 := g2 1 (by decide)
  have ent1 : ∀ j, j < np → entC I1 (eAt R p j) = F j := fun j hj => by
    have hne : eAt R p j ≠ eAt R p np := fun z => by have := hPr.2 j np (by omega) (by omega) z; omega
    rw [← hF j hj]
    unfold entC
    rw [g1 _ _ hne, g1 _ _ hne, g1 _ _ hne, g1 _ _ hne, g1 _ _ hne]
  have tail : ∀ R2 : zRR, (∀ j, j < 16 → R2 (p + 1) j = R (p + 1) (if pos < j ∧ j ≤ np then j - 1 else j)) → (∀ q, q ≠ p + 1 → R2 q = R q) → z_X G muX4_insert (1, 0, 0) (z_rel none n T (fun I' R' => z_P T I' R' p (np + 1) (insF F pos (entC I b)) ∧ (∀ q, q < p ∨ p + 18 ≤ q → I' q = I q) ∧ ∀ q, q ≠ p + 1 → R' q = R q)) n T I1 R2 0 0 82 [(0, .ref p), (1, .ref b), (2, .ref (eAt R p np)), (3, .int (nI pos))] [] := by
    intro R2 e1 e2
    have hRp2 : R2 p 0 = some (p + 1) := by rw [e2 p (by omega)]; exact hRp
    refine z_aload_n (q := 83) dX4_insert_82 rfl rfl rfl ?_
    refine z_getR (q := 86) 4 0 2 14 rfl (by decide) rfl rfl rfl (by with_reducible assumption) (by with_reducible assumption) dX4_insert_83 rfl ?_
    refine z_iload_n (q := 87) dX4_insert_86 rfl rfl rfl ?_
    refine z_aload_n (q := 88) dX4_insert_87 rfl rfl rfl ?_
    refine z_aast (q := 89) (ci := 1) (r := (RX1, _, _)) _ (by with_reducible assumption) rfl (by with_reducible assumption) (rfl) (by omega) (by decide) dX4_insert_88 rfl ?_
    refine z_aload_n (q := 90) dX4_insert_89 rfl rfl rfl ?_
    refine z_dup (q := 91) dX4_insert_90 rfl rfl ?_
    refine z_getV (q := 94) 4 1 1 15 rfl (by decide) rfl rfl rfl (by with_reducible assumption) (hs1) dX4_insert_91 rfl ?_
    refine z_iconst (q := 95) (v := nI 1) dX4_insert_94 (by rfl) rfl ?_
    refine z_iaddE (q := 96) dX4_insert_95 (nI_add _ _) rfl ?_
    refine z_put (q := 99) 4 1 1 15 rfl (by decide) rfl rfl (tyX4_ok 1 (by decide)) (rfl) (rfl) rfl (by with_reducible assumption) dX4_insert_96 rfl ?_
    refine z_vret rfl dX4_insert_99 (Nat.zero_le _) (Nat.zero_le _) ⟨rfl, rfl, rfl, ?_, fun q hq => by rw [zw_row _ _ (by omega)]; funext k; exact g1 q k (by omega), fun q hq => by rw [zw_row _ _ hq]; exact e2 q hq⟩
    have hR' : ∀ j, j < 16 → zw R2 (p + 1) pos (some (eAt R p np)) (p + 1) j = R (p + 1) (inS np pos j) := by
      intro j hj
      by_cases hj1 : j = pos
      · rw [hj1, zw_s, inS, if_pos rfl]
        exact hin.1.symm
      · rw [zw_k _ _ hj1, e1 j hj, inS, if_neg hj1]
    obtain ⟨k1, k2⟩ := z_Prm_s (inS np pos) hPr hR' (fun j hj => by unfold inS; split; omega; split <;> omega) (fun a b ha hb h => by unfold inS at h; split at h <;> split at h <;> (try split at h) <;> (try split at h) <;> omega)
    have hne : ∀ j, j < 16 → eAt R p j ≠ p := fun j hj z => by have := (hPr.1 j hj).2.1; omega
    have hd : ∀ j, j < 16 → inS np pos j < 16 := fun j hj => by unfold inS; split; omega; split <;> omega
    refine ⟨⟨hTp, hTe, by rw [zw_row _ _ (by omega)]; exact hRp2, hTa⟩, k1, by omega, zw_s _ _ _ _, fun j hj => ?_, fun j hj => ?_⟩
    · rw [k2 j hj, zw_row _ _ (hne _ (hd j hj))]
      by_cases e : inS np pos j = np
      · rw [e, g2 0 (by decide)]
        exact hb01
      · rw [g1 _ _ (fun z => e (hPr.2 _ _ (hd j hj) (by omega) z))]
        exact h01 _ (hd j hj)
    · rw [k2 j (by omega)]
      have e0 : entC (zw I1 p 1 (nI (np + 1))) (eAt R p (inS np pos j)) = entC I1 (eAt R p (inS np pos j)) := by
        unfold entC
        rw [zw_row _ _ (hne _ (hd j (by omega)))]
      rw [e0]
      unfold inS insF
      by_cases h : j < pos
      · rw [if_neg (by omega), if_neg (by omega), if_pos h]
        exact ent1 j (by omega)
      · rw [if_neg h]
        by_cases h3 : j = pos
        · rw [if_pos h3, if_pos h3]
          unfold entC
          rw [g2 _ (by decide), g2 _ (by decide), g2 _ (by decide), g2 _ (by decide), g2 _ (by decide)]
        · rw [if_neg h3, if_neg h3, if_pos (by omega)]
          exact ent1 (j - 1) (by omega)
  have loop : ∀ d i, i = pos + d → i ≤ np → ∀ R2 : zRR, (∀ j, j < 16 → R2 (p + 1) j = R (p + 1) (if i < j ∧ j ≤ np then j - 1 else j)) → (∀ q, q ≠ p + 1 → R2 q = R q) → z_X G muX4_insert (1, 0, 0) (z_rel none n T (fun I' R' => z_P T I' R' p (np + 1) (insF F pos (entC I b)) ∧ (∀ q, q < p ∨ p + 18 ≤ q → I' q = I q) ∧ ∀ q, q ≠ p + 1 → R' q = R q)) n T I1 R2 0 0 40 [(0, .ref p), (1, .ref b), (2, .ref (eAt R p np)), (3, .int (nI i))] [] := by
    intro d
    induction d with
    | zero =>
      intro i hi hin2 R2 e1 e2
      have hi : i = pos := hi
      subst hi
      have hRp2 : R2 p 0 = some (p + 1) := by rw [e2 p (by omega)]; exact hRp
      refine z_iload_n (q := 41) dX4_insert_40 rfl rfl rfl ?_
      by_cases h0 : i = 0
      · refine z_if_le (tgt := 82) (q := 44) dX4_insert_41 (by decide) rfl (fun _ => ?_) (fun hc => False.elim (hc (by rw [h0]; decide)))
        exact tail R2 e1 e2
      · have hRi : R2 (p + 1) (i - 1) = some (eAt R p (i - 1)) := by rw [e1 _ (by omega), if_neg (by omega)]; exact (hPr.1 _ (by omega)).1
        have hTi := z_eT hP (show i - 1 < 16 by omega)
        refine z_if_le (tgt := 82) (q := 44) dX4_insert_41 (by decide) rfl (fun hc => False.elim (nI_nle (n := i) (by omega) (by omega) hc)) (fun _ => ?_)
        refine z_aload_n (q := 45) dX4_insert_44 rfl rfl rfl ?_
        refine z_getR (q := 48) 4 0 2 14 rfl (by decide) rfl rfl rfl (by with_reducible assumption) (by with_reducible assumption) dX4_insert_45 rfl ?_
        refine z_iload_n (q := 49) dX4_insert_48 rfl rfl rfl ?_
        refine z_iconst (q := 50) (v := nI 1) dX4_insert_49 (by rfl) rfl ?_
        refine z_isubE (q := 51) dX4_insert_50 (pk_sub (by omega)) rfl ?_
        refine z_aald (q := 52) _ (by with_reducible assumption) (rfl) (by omega) (by decide) (hRi) dX4_insert_51 rfl ?_
        refine z_getI (q := 55) 1 1 3 17 rfl (by decide) rfl rfl rfl (by with_reducible assumption) dX4_insert_52 rfl ?_
        refine z_aload_n (q := 56) dX4_insert_55 rfl rfl rfl ?_
        refine z_getI (q := 59) 1 1 3 17 rfl (by decide) rfl rfl rfl (by with_reducible assumption) dX4_insert_56 rfl ?_
        have hst : I1 (eAt R p (i - 1)) 1 = (F (i - 1)).1 := congrArg Prod.fst (ent1 (i - 1) (by omega))
        rw [hst, hfs]
        refine z_icmp_le (tgt := 82) (q := 62) dX4_insert_59 (by decide) rfl (fun _ => ?_) (fun hc => False.elim (hc (Int32.not_lt.mp (h2 (by omega)))))
        exact tail R2 e1 e2
    | succ d ih =>
      intro i hi hin2 R2 e1 e2
      obtain ⟨i', rfl⟩ : ∃ i', i = i' + 1 := ⟨pos + d, by omega⟩
      have hRp2 : R2 p 0 = some (p + 1) := by rw [e2 p (by omega)]; exact hRp
      have hRi : R2 (p + 1) i' = some (eAt R p i') := by rw [e1 _ (by omega), if_neg (by omega)]; exact (hPr.1 _ (by omega)).1
      have hTi := z_eT hP (show i' < 16 by omega)
      refine z_iload_n (q := 41) dX4_insert_40 rfl rfl rfl ?_
      refine z_if_le (tgt := 82) (q := 44) dX4_insert_41 (by decide) rfl (fun hc => False.elim (nI_nle (n := i' + 1) (by omega) (by omega) hc)) (fun _ => ?_)
      refine z_aload_n (q := 45) dX4_insert_44 rfl rfl rfl ?_
      refine z_getR (q := 48) 4 0 2 14 rfl (by decide) rfl rfl rfl (by with_reducible assumption) (by with_reducible assumption) dX4_insert_45 rfl ?_
      refine z_iload_n (q := 49) dX4_insert_48 rfl rfl rfl ?_
      refine z_iconst (q := 50) (v := nI 1) dX4_insert_49 (by rfl) rfl ?_
      refine z_isubE (q := 51) dX4_insert_50 (pk_sub (by omega)) rfl ?_
      refine z_aald (q := 52) _ (by with_reducible assumption) (rfl) (by omega) (by decide) (hRi) dX4_insert_51 rfl ?_
      refine z_getI (q := 55) 1 1 3 17 rfl (by decide) rfl rfl rfl (by with_reducible assumption) dX4_insert_52 rfl ?_
      refine z_aload_n (q := 56) dX4_insert_55 rfl rfl rfl ?_
      refine z_getI (q := 59) 1 1 3 17 rfl (by decide) rfl rfl rfl (by with_reducible assumption) dX4_insert_56 rfl ?_
      have hst : I1 (eAt R p i') 1 = (F i').1 := congrArg Prod.fst (ent1 i' (by omega))
      rw [hst, hfs]
      refine z_icmp_le (tgt := 82) (q := 62) dX4_insert_59 (by decide) rfl (fun hc => False.elim (absurd (h1 i' (by omega) (by omega)) (Int32.not_lt.mpr hc))) (fun _ => ?_)
      refine z_aload_n (q := 63) dX4_insert_62 rfl rfl rfl ?_
      refine z_getR (q := 66) 4 0 2 14 rfl (by decide) rfl rfl rfl (by with_reducible assumption) (by with_reducible assumption) dX4_insert_63 rfl ?_
      refine z_iload_n (q := 67) dX4_insert_66 rfl rfl rfl ?_
      refine z_aload_n (q := 68) dX4_insert_67 rfl rfl rfl ?_
      refine z_getR (q := 71) 4 0 2 14 rfl (by decide) rfl rfl rfl (by with_reducible assumption) (by with_reducible assumption) dX4_insert_68 rfl ?_
      refine z_iload_n (q := 72) dX4_insert_71 rfl rfl rfl ?_
      refine z_iconst (q := 73) (v := nI 1) dX4_insert_72 (by rfl) rfl ?_
      refine z_isubE (q := 74) dX4_insert_73 (pk_sub (by omega)) rfl ?_
      refine z_aald (q := 75) _ (by with_reducible assumption) (rfl) (by omega) (by decide) (hRi) dX4_insert_74 rfl ?_
      refine z_aast (q := 76) (ci := 1) (r := (RX1, _, _)) _ (by with_reducible assumption) rfl (by with_reducible assumption) (rfl) (by omega) (by decide) dX4_insert_75 rfl ?_
      refine z_iinc (q := 79) dX4_insert_76 rfl (z_m1 i') (by decide) rfl ?_
      refine z_goto (q := 40) dX4_insert_79 (by decide) ?_
      refine ih i' (by omega) (by omega) _ (fun j hj => ?_) (fun q hq => by rw [zw_row _ _ hq]; exact e2 q hq)
      by_cases hji : j = i' + 1
      · rw [hji, zw_s, if_pos (by omega)]
        exact (hPr.1 _ (by omega)).1.symm
      · rw [zw_k _ _ hji, e1 j hj]
        by_cases h : i' + 1 < j ∧ j ≤ np
        · rw [if_pos h, if_pos (by omega)]
        · rw [if_neg h, if_neg (by omega)]
  refine z_aload_n (q := 36) dX4_insert_35 rfl rfl rfl ?_
  refine z_getV (q := 39) 4 1 1 15 rfl (by decide) rfl rfl rfl (by with_reducible assumption) (hs1) dX4_insert_36 rfl ?_
  refine z_istore_n (q := 40) dX4_insert_39 rfl (by decide) rfl ?_
  refine loop (np - pos) np (by omega) (Nat.le_refl _) R (fun j hj => ?_) (fun _ _ => rfl)
  rw [if_neg (by omega)]
set_option maxRecDepth 100000 in
set_option maxHeartbeats 4000000 in
theorem c_X4_copyFrom (G : zG) {n : Nat} {T : zTT} {I : zII} {R : zRR} (p b np : Nat) (F : Nat → zE) (hA : z_Plan T R p) (hAr : z_Prm R p) (hP : z_P T I R b np F) (hb : p + 18 ≤ b ∨ b + 18 ≤ p) : Ct G yX4_copyFrom wsX4_copyFrom (1, 0, 0) [.ref p, .ref b] n T I R (z_rel none n T (fun I' R' => R' = R ∧ z_P T I' R p np F ∧ ∀ q, q < p ∨ p + 18 ≤ q → I' q = I q)) := by
  refine Ct.ofX (M := muX4_copyFrom) (ls := [(0, .ref p), (1, .ref b)]) (by decide +kernel) rfl (by decide) rfl rfl (Nat.le_of_ble_eq_true rfl) ?_
  obtain ⟨⟨hTp, hTe, hRp, hTa⟩, hPr, hnp, hs, h01, hF⟩ := id hP
  obtain ⟨hTp', hTe', hRp', hTa'⟩ := id hA
  refine z_aload_n (q := 1) dX4_copyFrom_0 rfl rfl rfl ?_
  refine z_aload_n (q := 2) dX4_copyFrom_1 rfl rfl rfl ?_
  refine z_getI (q := 5) 4 1 1 14 rfl (by decide) rfl rfl rfl (by with_reducible assumption) dX4_copyFrom_2 rfl ?_
  refine z_put (q := 8) 4 1 1 14 rfl (by decide) rfl rfl (tyX4_ok 1 (by decide)) (rfl) (rfl) rfl (by with_reducible assumption) dX4_copyFrom_5 rfl ?_
  refine z_iconst (q := 9) (v := nI 0) dX4_copyFrom_8 (by rfl) rfl ?_
  refine z_istore_n (q := 10) dX4_copyFrom_9 rfl (by decide) rfl ?_
  have loop : ∀ i, i ≤ 16 → ∀ I2, I2 p 1 = nI np → (∀ j, j < i → ∀ k, k < 5 → I2 (eAt R p j) k = I (eAt R b j) k) → (∀ q, q < p ∨ p + 18 ≤ q → I2 q = I q) → z_X G muX4_copyFrom (1, 0, 0) (z_rel none n T (fun I' R' => R' = R ∧ z_P T I' R p np F ∧ ∀ q, q < p ∨ p + 18 ≤ q → I' q = I q)) n T I2 R 0 0 10 [(0, .ref p), (1, .ref b), (2, .int (nI i))] [] := by
    refine z_up (N := 16) _ ?_ ?_
    · intro I2 e0 e1 e2
      refine z_iload_n (q := 11) dX4_copyFrom_10 rfl rfl rfl ?_
      refine z_aload_n (q := 12) dX4_copyFrom_11 rfl rfl rfl ?_
      refine z_getR (q := 15) 4 0 2 13 rfl (by decide) rfl rfl rfl (by with_reducible assumption) (by with_reducible assumption) dX4_copyFrom_12 rfl ?_
      refine z_alen (q := 16) (by with_reducible assumption) dX4_copyFrom_15 rfl ?_
      refine z_icmpn_ge (rfl) (rfl) (by omega) (by omega) (tgt := 49) (q := 19) dX4_copyFrom_16 (by decide) rfl (fun _ => ?_) (fun hc => absurd hc (by omega))
      refine z_vret rfl dX4_copyFrom_49 (Nat.zero_le _) (Nat.zero_le _) ⟨rfl, rfl, rfl, rfl, ⟨hA, hAr, hnp, e0, fun k hk => ?_, fun k hk => ?_⟩, e2⟩
      · rw [e1 k hk 0 (by decide)]
        exact h01 k hk
      · rw [← hF k hk]
        unfold entC
        rw [e1 k (by omega) _ (by decide), e1 k (by omega) _ (by decide), e1 k (by omega) _ (by decide), e1 k (by omega) _ (by decide), e1 k (by omega) _ (by decide)]
    · intro i hi ih I2 e0 e1 e2
      have hTi := z_eT hP hi
      have ha := hAr.1 i hi
      have hb2 := hPr.1 i hi
      have hTj : T (eAt R p i) = some (.inl 1) := hTa' _ ha.2.1 ha.2.2
      have hbb : I2 (eAt R b i) 0 = 0 ∨ I2 (eAt R b i) 0 = 1 := by rw [e2 _ (by omega)]; exact h01 i hi
      refine z_iload_n (q := 11) dX4_copyFrom_10 rfl rfl rfl ?_
      refine z_aload_n (q := 12) dX4_copyFrom_11 rfl rfl rfl ?_
      refine z_getR (q := 15) 4 0 2 13 rfl (by decide) rfl rfl rfl (by with_reducible assumption) (by with_reducible assumption) dX4_copyFrom_12 rfl ?_
      refine z_alen (q := 16) (by with_reducible assumption) dX4_copyFrom_15 rfl ?_
      refine z_icmpn_ge (rfl) (rfl) (by omega) (by omega) (tgt := 49) (q := 19) dX4_copyFrom_16 (by decide) rfl (fun hc => absurd hc (by omega)) (fun _ => ?_)
      refine z_iload_n (q := 20) dX4_copyFrom_19 rfl rfl rfl ?_
      refine z_aload_n (q := 21) dX4_copyFrom_20 rfl rfl rfl ?_
      refine z_getR (q := 24) 4 0 2 13 rfl (by decide) rfl rfl rfl (by with_reducible assumption) (by with_reducible assumption) dX4_copyFrom_21 rfl ?_
      refine z_alen (q := 25) (by with_reducible assumption) dX4_copyFrom_24 rfl ?_
      refine z_icmpn_ge (rfl) (rfl) (by omega) (by omega) (tgt := 49) (q := 28) dX4_copyFrom_25 (by decide) rfl (fun hc => absurd hc (by omega)) (fun _ => ?_)
      refine z_aload_n (q := 29) dX4_copyFrom_28 rfl rfl rfl ?_
      refine z_getR (q := 32) 4 0 2 13 rfl (by decide) rfl rfl rfl (by with_reducible assumption) (by with_reducible assumption) dX4_copyFrom_29 rfl ?_
      refine z_iload_n (q := 33) dX4_copyFrom_32 rfl rfl rfl ?_
      refine z_aald (q := 34) _ (by with_reducible assumption) (rfl) (by omega) (by decide) (ha.1) dX4_copyFrom_33 rfl ?_
      refine z_aload_n (q := 35) dX4_copyFrom_34 rfl rfl rfl ?_
      refine z_getR (q := 38) 4 0 2 13 rfl (by decide) rfl rfl rfl (by with_reducible assumption) (by with_reducible assumption) dX4_copyFrom_35 rfl ?_
      refine z_iload_n (q := 39) dX4_copyFrom_38 rfl rfl rfl ?_
      refine z_aald (q := 40) _ (by with_reducible assumption) (rfl) (by omega) (by decide) (hb2.1) dX4_copyFrom_39 rfl ?_
      refine z_invV (q := 43) (c_X1_copyFrom G (eAt R p i) (eAt R b i) hTj hTi hbb) (by with_reducible assumption) rfl gX4_copyFrom_X1_copyFrom rfl hy_X1_copyFrom rfl rfl rfl rfl (Nat.le_of_ble_eq_true rfl) ⟨Nat.zero_le _, Nat.zero_le _⟩ dX4_copyFrom_40 rfl (z_rn ?_)
      refine z_iinc (q := 46) dX4_copyFrom_43 rfl (nI_add _ 1) (by decide) rfl ?_
      refine z_goto (q := 10) dX4_copyFrom_46 (by decide) ?_
      refine ih _ ?_ (fun j hj k hk => ?_) (fun q hq => ?_)
      · show (if p = eAt R p i ∧ 1 < 5 then I2 (eAt R b i) 1 else I2 p 1) = nI np
        rw [if_neg (by omega)]
        exact e0
      · show (if eAt R p j = eAt R p i ∧ k < 5 then I2 (eAt R b i) k else I2 (eAt R p j) k) = _
        by_cases hji : j = i
        · rw [hji, if_pos ⟨rfl, hk⟩, e2 _ (by omega)]
        · rw [if_neg (fun z => hji (hAr.2 j i (by omega) hi z.1))]
          exact e1 j (by omega) k hk
      · funext k
        show (if q = eAt R p i ∧ k < 5 then I2 (eAt R b i) k else I2 q k) = I q k
        rw [if_neg (by omega), e2 q hq]
  refine loop 0 (Nat.zero_le _) _ ?_ (fun j hj => absurd hj (Nat.not_lt_zero j)) (fun q hq => by rw [zw_row _ _ (by omega)])
  rw [zw_s]
  exact hs


