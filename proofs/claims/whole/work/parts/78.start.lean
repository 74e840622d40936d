/-! THE LAW: its start -/
theorem inlX7 : ∀ w ∈ wsX70, w ∈ wsL_law := fun _ h => List.mem_append_left _ (List.mem_append_left _ (List.mem_append_left _ (List.mem_append_left _ (List.mem_append_left _ (List.mem_append_left _ (List.mem_append_left _ (List.mem_append_left _ (List.mem_append_left _ (List.mem_append_right _ h)))))))))
theorem inlX8 : ∀ w ∈ wsX80, w ∈ wsL_law := fun _ h => List.mem_append_left _ (List.mem_append_left _ (List.mem_append_left _ (List.mem_append_left _ (List.mem_append_left _ (List.mem_append_left _ (List.mem_append_left _ (List.mem_append_left _ (List.mem_append_right _ h))))))))
set_option maxRecDepth 100000 in
set_option maxHeartbeats 4000000 in
theorem law_go {p : Program} {e : Env} {s : State} {m : MethodId} {args : Array Value} {below : List Frame} {meth : Method} {c : Code} {G : zG} {b L0 : Nat} {xs : Nat → Int32} (hX : va_X b L0 xs s s.heap) (hbl : b < s.heap.size) (hG : G.2.2 = s.heap.size) (hL0 : L0 ≤ 3072) : z_L p e s m args below meth c G muL (10, 600000, 7302250) QL s.heap.size (fun _ => none) (fun _ _ => 0) (fun _ _ => none) 0 0 0 [(0, .ref b)] [] := by
  generalize hx : s.heap.size = x at hbl hG ⊢
  refine l_new (q := 3) 7 0 1 2 tyX7 tyX7_ok inlX7 rfl rfl rfl rfl z_def7 (by decide) dL_law_0 rfl ?_
  refine l_dup (q := 4) dL_law_3 rfl rfl ?_
  refine l_invI' (q := 7) (i := 6) (j := 7) (l := 2) (c_X7_init G x rfl (zN_s _ _ _)) gL_law_X7_init rfl rfl rfl rfl hy_X7_init rfl rfl rfl rfl (Nat.le_of_ble_eq_true rfl) (by decide) dL_law_4 rfl ?_
  rintro r1 n1 T1 I1 R1 ⟨rfl, rfl, h1, hS⟩
  show z_L p e s m args below meth c G muL (10, 600000, 7302250) QL (x + 595) T1 I1 R1 _ _ 7 _ [.ref x]
  refine l_astore_n (q := 8) dL_law_7 rfl (by decide) rfl ?_
  refine l_new (q := 11) 8 3 4 5 tyX8 tyX8_ok inlX8 rfl rfl rfl rfl z_def8 (by decide) dL_law_8 rfl ?_
  refine l_dup (q := 12) dL_law_11 rfl rfl ?_
  refine l_invI' (q := 15) (i := 82) (j := 83) (l := 5) (c_X8_init G (x + 595) rfl (zN_s _ _ _) (zN_s _ _ _)) gL_law_X8_init rfl rfl rfl rfl hy_X8_init rfl rfl rfl rfl (Nat.le_of_ble_eq_true rfl) (by decide) dL_law_12 rfl ?_
  rintro r2 n2 T2 I2 R2 ⟨rfl, rfl, h2, hM, hI0, hI1, hz⟩
  show z_L p e s m args below meth c G muL (10, 600000, 7302250) QL (x + 595 + 8) T2 I2 R2 _ _ 15 _ [.ref (x + 595)]
  refine l_astore_n (q := 16) dL_law_15 rfl (by decide) rfl ?_
  refine l_iconst (q := 17) (v := nI 0) dL_law_16 (by rfl) rfl ?_
  refine l_istore_n (q := 18) dL_law_17 rfl (by decide) rfl ?_
  have hS2 : rtI x T2 I2 R2 := rt_fr hS (fun q q1 q2 => ⟨(h2 q q2).1.trans (zN_n _ _ (by omega)), (h2 q q2).2.1.trans (zN_n _ _ (by omega)), (h2 q q2).2.2.trans (zN_n _ _ (by omega))⟩)
  have hL : LSt T2 x (x + 595) I2 R2 := by
    refine ⟨hM, 0, 0, by rw [hI0]; exact nI_0.symm, by rw [hI0]; exact nI_0.symm, ?_⟩
    rw [hI1, hz (x + 595 + 4) (by omega) (by omega)]
    exact rt_St hS2 _
  exact law_loop hX (hx ▸ hbl) (hG.trans hx.symm) hL0 rfl hS2.1.1 hM.1 L0 0 (by omega) (by omega) I2 R2 hL
theorem hasRoom_le {s : State} {pl : Platform} (h : s.hasRoom pl room_1 = true) : s.hasRoom pl (z_rm (10, 600000, 7302250)) = true := by
  unfold State.hasRoom at h ⊢
  simp only [Bool.and_eq_true] at h ⊢
  obtain ⟨⟨⟨⟨b1, b2⟩, b3⟩, b4⟩, b5⟩ := h
  obtain ⟨a2, a3, a4, a5, a6⟩ := of_decide_eq_true b2
  have a1 := of_decide_eq_true b1
  have e : room_1.locals = 384 := rfl
  refine ⟨⟨⟨⟨decide_eq_true ?_, decide_eq_true ⟨a2, a3, ?_, ?_, a6⟩⟩, b3⟩, b4⟩, b5⟩
  · rw [e] at a1; omega
  · rw [e] at a4; omega
  · rw [e] at a5; omega
