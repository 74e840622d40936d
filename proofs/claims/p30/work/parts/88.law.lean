/-! THE LAW's own body -/
theorem rt_fr {T T' : zTT} {R R' : zRR} {I I' : zII} {x : Nat} (h : rtI x T I R) (hf : ∀ q, x ≤ q → q < x + 595 → T' q = T q ∧ I' q = I q ∧ R' q = R q) : rtI x T' I' R' := by
  obtain ⟨⟨a, b, c, d, e, f, g, s1, ⟨s2, s3⟩, s4, s5⟩, h1, h2, h3, h4, h5⟩ := h
  have hx := (hf x (by omega) (by omega)).2.2
  have hs := (hf (x + 591) (by omega) (by omega)).2.2
  exact ⟨⟨(hf x (by omega) (by omega)).1.trans a, (congrFun hx 0).trans b, (congrFun hx 1).trans c, (congrFun hx 2).trans d, (congrFun hx 3).trans e, (congrFun hx 4).trans f, (hf _ (by omega) (by omega)).1.trans g, (hf _ (by omega) (by omega)).1.trans s1, ⟨(hf _ (by omega) (by omega)).1.trans s2, (congrFun hs 0).trans s3⟩, (hf _ (by omega) (by omega)).1.trans s4, (congrFun hs 5).trans s5⟩, hs_fr h1 (fun q q1 q2 => hf q (by omega) (by omega)), hs_fr h2 (fun q q1 q2 => hf q (by omega) (by omega)), hi_fr h3 (fun q q1 q2 => hf q (by omega) (by omega)), (hf _ (by omega) (by omega)).2.1.trans h4, (hf _ (by omega) (by omega)).2.1.trans h5⟩
theorem inlX7 : ∀ w ∈ wsX70, w ∈ wsL_law := fun _ h => List.mem_append_left _ (List.mem_append_left _ (List.mem_append_left _ (List.mem_append_left _ (List.mem_append_left _ (List.mem_append_left _ (List.mem_append_left _ (List.mem_append_left _ (List.mem_append_right _ h))))))))
def wsM : List Cond := wsL_law ++ (wsL_isSo ++ wsL_acts)
abbrev muL : zM := (RL, cL_law, 11, wsM, (some .boolean), false)
theorem gM {ws : List Cond} (h : GoodIn wsL_law ws) : GoodIn wsM ws := fun w hw => ⟨List.mem_append_left _ (h w hw).1, (h w hw).2⟩
theorem gM_isSo0 : GoodIn wsM wsL_isSo := goodIn_sub (fun w h => List.mem_append_right _ (List.mem_append_left _ h)) (by decide +kernel)
theorem gM_acts0 : GoodIn wsM wsL_acts := goodIn_sub (fun w h => List.mem_append_right _ (List.mem_append_right _ h)) (by decide +kernel)
theorem gLaw_isSo1 : GoodIn wsL_law (va_wsS RL 97 yL_isSo []) := goodIn_of _ (by decide +kernel)
theorem gLaw_acts1 : GoodIn wsL_law (va_wsS RL 104 yL_acts []) := goodIn_of _ (by decide +kernel)
theorem gM_isSo : GoodIn wsM (va_wsS RL 97 yL_isSo wsL_isSo) := goodIn_app (gM gLaw_isSo1) gM_isSo0
theorem gM_acts : GoodIn wsM (va_wsS RL 104 yL_acts wsL_acts) := goodIn_app (gM gLaw_acts1) gM_acts0
theorem l_forget {p : Program} {e : Env} {s : State} {m : MethodId} {args : Array Value} {below : List Frame} {meth : Method} {c : Code} {G : zG} {M : zM} {P : zP} {Q : zQ} {n : Nat} {T T0 : zTT} {I : zII} {R : zRR} {k w pc : Nat} {ls : List (Nat × Value)} {st : List Value} (hs : ∀ a t, T0 a = some t → T a = some t) (kk : z_L p e s m args below meth c G M P Q n T0 I R k w pc ls st) : z_L p e s m args below meth c G M P Q n T I R k w pc ls st :=
  fun Cx H locs L hn hH hS hL => kk Cx H locs L hn (fun a t ht => hH a t (hs a t ht)) hS hL
abbrev QL : zQ := fun r _ _ _ _ => r = some (.int 1)
theorem LST_mono {T : zTT} {R : zRR} {I : zII} {x b S B S' B' : Nat} (h : LST T R I x b S B) (hS : S ≤ S') (hB : B ≤ B') : LST T R I x b S' B' := by
  obtain ⟨g, p, pc, nr, nd, np, st, W, h1, h2, h3, h4⟩ := h
  exact ⟨g, p, pc, nr, nd, np, st, W, h1, h2, PH_mono h3 hB, by omega⟩
theorem PH_0 : PH 0 0 0 0 0 0 g00 := by
  have z0 : (0 : Int32).toInt = 0 := by decide
  have hz : ∀ c, posC c ∨ gvC c → g00 c = 0 := fun c hc => g00_n (fun e => by subst e; rcases hc with z | z <;> (first | (unfold posC at z; omega) | (unfold gvC at z; omega))) (fun e => by subst e; rcases hc with z | z <;> (first | (unfold posC at z; omega) | (unfold gvC at z; omega)))
  refine ⟨g00_INV, ⟨by decide, by decide, by decide⟩, fun r hr => absurd hr (Nat.not_lt_zero r), fun r hr => absurd hr (Nat.not_lt_zero r), ⟨fun c hc => by rw [hz c hc]; exact Int.le_of_eq z0.symm, ?_, ?_, by decide⟩, ⟨1000000, by rw [g00, if_pos rfl], Nat.le_refl _⟩, ⟨0, (g00_n (by decide) (by decide)).trans nI_0.symm, by decide, by decide⟩, fun e he => by cases he⟩
  · exact zsm_0 (fun c _ => by
      by_cases h : posC c
      · rw [pF_p h, hz c (Or.inl h)]; exact z0
      · exact pF_n h)
  · exact zsm_0 (fun c _ => by
      by_cases h : gvC c
      · rw [gF_p h, hz c (Or.inr h)]; exact z0
      · exact gF_n h)
theorem low_832 {m w : Nat} (hm : m < 2 ^ 31) (hw : w < 26) : lowN (nI (m / 832 * 832 + w)) 26 = w := by
  have hq : m / 832 ≤ 2581110 := by omega
  have hlt : m / 832 * 832 + w < 2 ^ 31 := by omega
  unfold lowN
  rw [pk_tn (by omega), Nat.mod_eq_of_lt hlt]
  omega
set_option maxRecDepth 100000 in
set_option maxHeartbeats 4000000 in
theorem law_end {p : Program} {e : Env} {s : State} {m : MethodId} {args : Array Value} {below : List Frame} {meth : Method} {c : Code} {G : zG} {T : zTT} {b L0 x a n0 : Nat} {xs : Nat → Int32} (hX : va_X b L0 xs s s.heap) (hbG : b < G.2.2) (hL0 : L0 ≤ 260) (ha : a = x + 595) (hTx : T x = some (.inl 7)) (hT : LT T a) (hlt : ∀ q t, T q = some t → q < n0) {n ku wu S B : Nat} {I : zII} {R : zRR} (hS : LST T R I x a S B) (hku : ku ≤ 600000) (hwu : wu ≤ 7000000) : ∀ ls : List (Nat × Value), lv_pick ls [0, 1, 2, 3, 4, 5, 6, 7, 8] = [(0, .ref b), (1, .ref x), (2, .ref a), (3, .ref (a + 1)), (4, .ref (a + 2)), (5, .ref (a + 3)), (6, .ref (a + 4)), (7, .ref (a + 5)), (8, .int (nI 1))] → z_L p e s m args below meth c G muL (9, 604238, 7289534) QL n T I R ku wu 250 ls [] := by
  obtain ⟨g, pp, pc, nr, nd, np, st, W, hS0, hL, hH, hstS⟩ := hS
  have c13 : Ct G yX7_count wsX7_count (2, 0, 0) [.ref x, .int (nI 13)] n T I R (z_ret (some (.int (-1))) n T I R) := by
    have h := c_X7_count G (n := n) x pc 0 g (fun _ => 0) pp hS0 (nI 13)
    rw [sp_count, if_neg (nI_r (Nat.zero_le _) (show 13 ≤ 21 by omega) (by omega)), nI_clamp (by omega)] at h
    exact h
  have c22 : Ct G yX7_count wsX7_count (2, 0, 0) [.ref x, .int (nI 22)] n T I R (z_ret (some (.int (-1))) n T I R) := by
    have h := c_X7_count G (n := n) x pc 0 g (fun _ => 0) pp hS0 (nI 22)
    rw [sp_count, if_pos (Or.inr (by decide))] at h
    exact h
  have p5 : Ct G yX7_plan wsX7_plan (1, 0, 0) [.ref x, .int (nI 0), .int (nI 5)] n T I R (z_ret (some (.int (-1))) n T I R) := by
    have h := c_X7_plan G (n := n) x pc 0 g (fun _ => 0) pp hS0 (nI 0) (nI 5)
    rw [sp_plan, if_neg (by decide), if_pos (Or.inr (by decide))] at h
    exact h
  have pm : Ct G yX7_plan wsX7_plan (1, 0, 0) [.ref x, .int (-1), .int (nI 0)] n T I R (z_ret (some (.int (-1))) n T I R) := by
    have h := c_X7_plan G (n := n) x pc 0 g (fun _ => 0) pp hS0 (-1) (nI 0)
    rw [sp_plan, if_pos (by decide)] at h
    exact h
  intro ls hls
  refine l_pick [0, 1, 2, 3, 4, 5, 6, 7, 8] hls ?_
  refine l_iload (q := 252) (i := 8) dL_law_250 rfl rfl ?_
  refine l_if_eq (tgt := 299) (q := 255) dL_law_252 (by decide) rfl (fun hc => False.elim (absurd hc (by decide))) (fun _ => ?_)
  refine l_aload_n (q := 256) dL_law_255 rfl rfl rfl ?_
  refine l_bipush (q := 258) (v := nI 13) dL_law_256 (by rfl) rfl ?_
  refine l_invV (q := 261) (c13) (by with_reducible assumption) rfl (gM gL_law_X7_count) rfl hy_X7_count rfl rfl rfl rfl (Nat.le_of_ble_eq_true rfl) (show ku ≤ 604238 ∧ wu ≤ 7289534 by omega) dL_law_258 rfl (l_rv ?_)
  refine l_iconst (q := 262) (v := (-1)) dL_law_261 (by rfl) rfl ?_
  refine l_icmp_ne (tgt := 299) (q := 265) dL_law_262 (by decide) rfl (fun hc => False.elim (hc rfl)) (fun _ => ?_)
  refine l_aload_n (q := 266) dL_law_265 rfl rfl rfl ?_
  refine l_bipush (q := 268) (v := nI 22) dL_law_266 (by rfl) rfl ?_
  refine l_invV (q := 271) (c22) (by with_reducible assumption) rfl (gM gL_law_X7_count) rfl hy_X7_count rfl rfl rfl rfl (Nat.le_of_ble_eq_true rfl) (show ku ≤ 604238 ∧ wu ≤ 7289534 by omega) dL_law_268 rfl (l_rv ?_)
  refine l_iconst (q := 272) (v := (-1)) dL_law_271 (by rfl) rfl ?_
  refine l_icmp_ne (tgt := 299) (q := 275) dL_law_272 (by decide) rfl (fun hc => False.elim (hc rfl)) (fun _ => ?_)
  refine l_aload_n (q := 276) dL_law_275 rfl rfl rfl ?_
  refine l_iconst (q := 277) (v := nI 0) dL_law_276 (by rfl) rfl ?_
  refine l_iconst (q := 278) (v := nI 5) dL_law_277 (by rfl) rfl ?_
  refine l_invV (q := 281) (p5) (by with_reducible assumption) rfl (gM gL_law_X7_plan) rfl hy_X7_plan rfl rfl rfl rfl (Nat.le_of_ble_eq_true rfl) (show ku ≤ 604238 ∧ wu ≤ 7289534 by omega) dL_law_278 rfl (l_rv ?_)
  refine l_iconst (q := 282) (v := (-1)) dL_law_281 (by rfl) rfl ?_
  refine l_icmp_ne (tgt := 299) (q := 285) dL_law_282 (by decide) rfl (fun hc => False.elim (hc rfl)) (fun _ => ?_)
  refine l_aload_n (q := 286) dL_law_285 rfl rfl rfl ?_
  refine l_iconst (q := 287) (v := (-1)) dL_law_286 (by rfl) rfl ?_
  refine l_iconst (q := 288) (v := nI 0) dL_law_287 (by rfl) rfl ?_
  refine l_invV (q := 291) (pm) (by with_reducible assumption) rfl (gM gL_law_X7_plan) rfl hy_X7_plan rfl rfl rfl rfl (Nat.le_of_ble_eq_true rfl) (show ku ≤ 604238 ∧ wu ≤ 7289534 by omega) dL_law_288 rfl (l_rv ?_)
  refine l_iconst (q := 292) (v := (-1)) dL_law_291 (by rfl) rfl ?_
  refine l_icmp_ne (tgt := 299) (q := 295) dL_law_292 (by decide) rfl (fun hc => False.elim (hc rfl)) (fun _ => ?_)
  refine l_iconst (q := 296) (v := nI 1) dL_law_295 (by rfl) rfl ?_
  refine l_goto (q := 300) dL_law_296 (by decide) ?_
  exact l_zret rfl (by rfl) dL_law_300 (show ku ≤ 604238 by omega) (show wu ≤ 7289534 by omega) (by rw [zI1])
set_option maxRecDepth 100000 in
set_option maxHeartbeats 4000000 in
theorem law_turns {p : Program} {e : Env} {s : State} {m : MethodId} {args : Array Value} {below : List Frame} {meth : Method} {c : Code} {G : zG} {T : zTT} {b L0 x a n0 : Nat} {xs : Nat → Int32} (hX : va_X b L0 xs s s.heap) (hbG : b < G.2.2) (hL0 : L0 ≤ 260) (ha : a = x + 595) (hTx : T x = some (.inl 7)) (hT : LT T a) (hlt : ∀ q t, T q = some t → q < n0) (N : Nat) (hN : N ≤ 57) : ∀ k, k ≤ N → ∀ (n ku wu : Nat) (I : zII) (R : zRR), n0 ≤ n → LST T R I x a (36 + 6 * k) (1440 + 240 * k) → ku ≤ 1000 + 6 * k → wu ≤ 10000 + 54 * k → ∀ ls : List (Nat × Value), lv_pick ls [0, 1, 2, 3, 4, 5, 6, 7, 8, 9, 10] = [(0, .ref b), (1, .ref x), (2, .ref a), (3, .ref (a + 1)), (4, .ref (a + 2)), (5, .ref (a + 3)), (6, .ref (a + 4)), (7, .ref (a + 5)), (8, .int (nI 1)), (9, .int (nI N)), (10, .int (nI k))] → z_L p e s m args below meth c G muL (9, 604238, 7289534) QL n T I R ku wu 177 ls [] := by
  refine z_up (N := N) _ ?_ ?_
  · intro n ku wu I R hn hS hku hwu ls hls
    refine l_pick [0, 1, 2, 3, 4, 5, 6, 7, 8, 9, 10] hls ?_
    refine l_iload (q := 179) (i := 10) dL_law_177 rfl rfl ?_
    refine l_iload (q := 181) (i := 9) dL_law_179 rfl rfl ?_
    refine l_icmpn_ge (rfl) (rfl) (by omega) (by omega) (tgt := 250) (q := 184) dL_law_181 (by decide) rfl (fun _ => ?_) (fun hc => absurd hc (by omega))
    exact law_end hX hbG hL0 ha hTx hT hlt hS (by omega) (by omega) _ rfl
  · intro k hk ih n ku wu I R hn hS hku hwu ls hls
    refine l_pick [0, 1, 2, 3, 4, 5, 6, 7, 8, 9, 10] hls ?_
    refine l_iload (q := 179) (i := 10) dL_law_177 rfl rfl ?_
    refine l_iload (q := 181) (i := 9) dL_law_179 rfl rfl ?_
    refine l_icmpn_ge (rfl) (rfl) (by omega) (by omega) (tgt := 250) (q := 184) dL_law_181 (by decide) rfl (fun hc => absurd hc (by omega)) (fun _ => ?_)
    refine l_iload (q := 186) (i := 8) dL_law_184 rfl rfl ?_
    refine l_if_eq (tgt := 250) (q := 189) dL_law_186 (by decide) rfl (fun hc => False.elim (absurd hc (by decide))) (fun _ => ?_)
    refine l_aload_n (q := 190) dL_law_189 rfl rfl rfl ?_
    refine l_aload_n (q := 191) dL_law_190 rfl rfl rfl ?_
    refine l_aload_n (q := 192) dL_law_191 rfl rfl rfl ?_
    refine l_aload (q := 194) dL_law_192 rfl rfl ?_
    refine l_aload (q := 196) dL_law_194 rfl rfl ?_
    refine l_aload (q := 198) dL_law_196 rfl rfl ?_
    refine l_aload (q := 200) dL_law_198 rfl rfl ?_
    refine l_aload_n (q := 201) dL_law_200 rfl rfl rfl ?_
    refine l_bipush (q := 203) (v := nI 13) dL_law_201 (by rfl) rfl ?_
    refine l_iload (q := 205) (i := 10) dL_law_203 rfl rfl ?_
    refine l_iaddE (q := 206) dL_law_205 (nI_add _ _) rfl ?_
    refine l_invSX (q := 209) hX hbG (c_L_cell G hL0 (13 + k) (by omega)) (gM gL_law_L_cell) rfl hy_L_cell rfl rfl rfl rfl (Nat.le_of_ble_eq_true rfl) (show ku + 0 ≤ 604238 ∧ wu + 0 ≤ 7289534 by omega) dL_law_206 rfl (l_rv ?_)
    refine l_sipush (q := 212) (v := nI 7919) dL_law_209 (by rfl) rfl ?_
    refine l_iload (q := 214) (i := 10) dL_law_212 rfl rfl ?_
    refine l_imulE (q := 215) dL_law_214 (pk_mul _ _) rfl ?_
    refine l_ixor (q := 216) dL_law_215 rfl ?_
    refine l_invS' (q := 219) (c_L_acts G x a (36 + 6 * k) (1440 + 240 * k) _ ha hT hS (by omega) (by omega) (fun q t hq => by have := hlt q t hq; omega)) gM_acts rfl hy_L_acts rfl rfl rfl rfl (Nat.le_of_ble_eq_true rfl) (show ku + 0 + 6 ≤ 604238 ∧ wu + 0 + 54 ≤ 7289534 by omega) dL_law_216 rfl ?_
    rintro r3 n3 T3 I3 R3 ⟨hr3, hn3, hT3, hS3⟩
    rw [hr3, hT3]
    have hS4 : LST T R3 I3 x a (36 + 6 * (k + 1)) (1440 + 240 * (k + 1)) := LST_mono hS3 (by split <;> omega) (by split <;> omega)
    show z_L p e s m args below meth c G muL (9, 604238, 7289534) QL n3 T I3 R3 (ku + 0 + 6) (wu + 0 + 54) 219 _ [.int 1]
    refine l_if_eq (tgt := 241) (q := 222) dL_law_219 (by decide) rfl (fun hc => False.elim (absurd hc (by decide))) (fun _ => ?_)
    refine l_aload_n (q := 223) dL_law_222 rfl rfl rfl ?_
    refine l_aload_n (q := 224) dL_law_223 rfl rfl rfl ?_
    refine l_aload_n (q := 225) dL_law_224 rfl rfl rfl ?_
    refine l_aload (q := 227) dL_law_225 rfl rfl ?_
    refine l_aload (q := 229) dL_law_227 rfl rfl ?_
    refine l_aload (q := 231) dL_law_229 rfl rfl ?_
    refine l_invS (q := 234) (c_L_isSo G x a (36 + 6 * (k + 1)) (1440 + 240 * (k + 1)) hT hS4 (by omega)) gM_isSo rfl hy_L_isSo rfl rfl rfl rfl (Nat.le_of_ble_eq_true rfl) (show ku + 0 + 6 ≤ 604238 ∧ wu + 0 + 54 ≤ 7289534 by omega) dL_law_231 rfl (l_rv ?_)
    refine l_if_eq (tgt := 241) (q := 237) dL_law_234 (by decide) rfl (fun hc => False.elim (absurd hc (by decide))) (fun _ => ?_)
    refine l_iconst (q := 238) (v := nI 1) dL_law_237 (by rfl) rfl ?_
    refine l_goto (q := 242) dL_law_238 (by decide) ?_
    refine l_istore (q := 244) dL_law_242 (by decide) rfl ?_
    refine l_iinc (q := 247) dL_law_244 rfl (nI_add _ 1) (by decide) rfl ?_
    refine l_goto (q := 177) dL_law_247 (by decide) ?_
    exact ih n3 _ _ I3 R3 (by omega) hS4 (by omega) (by omega) _ rfl
set_option maxRecDepth 100000 in
set_option maxHeartbeats 4000000 in
theorem law_first {p : Program} {e : Env} {s : State} {m : MethodId} {args : Array Value} {below : List Frame} {meth : Method} {c : Code} {G : zG} {T : zTT} {b L0 x a n0 : Nat} {xs : Nat → Int32} (hX : va_X b L0 xs s s.heap) (hbG : b < G.2.2) (hL0 : L0 ≤ 260) (ha : a = x + 595) (hTx : T x = some (.inl 7)) (hT : LT T a) (hlt : ∀ q t, T q = some t → q < n0) : ∀ k, k ≤ 12 → ∀ (n ku wu : Nat) (I : zII) (R : zRR), n0 ≤ n → LST T R I x a (6 * (k - 6)) (240 * (k - 6)) → ku ≤ 900 + 6 * k → wu ≤ 9000 + 54 * k → ∀ ls : List (Nat × Value), lv_pick ls [0, 1, 2, 3, 4, 5, 6, 7, 8, 9] = [(0, .ref b), (1, .ref x), (2, .ref a), (3, .ref (a + 1)), (4, .ref (a + 2)), (5, .ref (a + 3)), (6, .ref (a + 4)), (7, .ref (a + 5)), (8, .int (nI 1)), (9, .int (nI k))] → z_L p e s m args below meth c G muL (9, 604238, 7289534) QL n T I R ku wu 71 ls [] := by
  refine z_up (N := 12) _ ?_ ?_
  · intro n ku wu I R hn hS hku hwu ls hls
    refine l_pick [0, 1, 2, 3, 4, 5, 6, 7, 8, 9] hls ?_
    refine l_iload (q := 73) (i := 9) dL_law_71 rfl rfl ?_
    refine l_bipush (q := 75) (v := nI 12) dL_law_73 (by rfl) rfl ?_
    refine l_icmpn_ge (rfl) (rfl) (by omega) (by omega) (tgt := 159) (q := 78) dL_law_75 (by decide) rfl (fun _ => ?_) (fun hc => absurd hc (by omega))
    refine l_bipush (q := 161) (v := nI 8) dL_law_159 (by rfl) rfl ?_
    refine l_aload_n (q := 162) dL_law_161 rfl rfl rfl ?_
    refine l_iconst (q := 163) (v := nI 0) dL_law_162 (by rfl) rfl ?_
    refine l_invSX (q := 166) hX hbG (c_L_cell G hL0 0 (by omega)) (gM gL_law_L_cell) rfl hy_L_cell rfl rfl rfl rfl (Nat.le_of_ble_eq_true rfl) (show ku + 0 ≤ 604238 ∧ wu + 0 ≤ 7289534 by omega) dL_law_163 rfl (l_rv ?_)
    refine l_bipush (q := 168) (v := nI 50) dL_law_166 (by rfl) rfl ?_
    refine l_invS (q := 171) (c_L_low G _ 50 (by decide) (by decide)) (gM gL_law_L_low) rfl hy_L_low rfl rfl rfl rfl (Nat.le_of_ble_eq_true rfl) (show ku + 0 ≤ 604238 ∧ wu + 0 ≤ 7289534 by omega) dL_law_168 rfl (l_rv ?_)
    have hlow := lowN_lt (cellV L0 xs 0) (m := 50) (by decide)
    generalize lowN (cellV L0 xs 0) 50 = t at hlow
    refine l_iaddE (q := 172) dL_law_171 (nI_add _ _) rfl ?_
    refine l_istore (q := 174) dL_law_172 (by decide) rfl ?_
    refine l_iconst (q := 175) (v := nI 0) dL_law_174 (by rfl) rfl ?_
    refine l_istore (q := 177) dL_law_175 (by decide) rfl ?_
    exact law_turns hX hbG hL0 ha hTx hT hlt (8 + t) (by omega) 0 (Nat.zero_le _) n ku wu I R hn (LST_mono hS (by omega) (by omega)) (by omega) (by omega) _ rfl
  · intro k hk ih n ku wu I R hn hS hku hwu ls hls
    have next : ∀ w mm : Nat, w < 26 → mm < 2 ^ 31 → (k < 6 → w < 3) → ∀ ls : List (Nat × Value), lv_pick ls [0, 1, 2, 3, 4, 5, 6, 7, 8, 9] = [(0, .ref b), (1, .ref x), (2, .ref a), (3, .ref (a + 1)), (4, .ref (a + 2)), (5, .ref (a + 3)), (6, .ref (a + 4)), (7, .ref (a + 5)), (8, .int (nI 1)), (9, .int (nI k))] → z_L p e s m args below meth c G muL (9, 604238, 7289534) QL n T I R ku wu 147 ls [.int (nI w), .int (nI (mm / 832 * 832)), .ref (a + 5), .ref (a + 4), .ref (a + 3), .ref (a + 2), .ref (a + 1), .ref a, .ref x] := by
      intro w mm hw hmm hk6 ls hls
      refine l_pick [0, 1, 2, 3, 4, 5, 6, 7, 8, 9] hls ?_
      refine l_iaddE (q := 148) dL_law_147 (nI_add _ _) rfl ?_
      have hact := c_L_acts G (n := n) (T := T) (I := I) (R := R) x a (6 * (k - 6)) (240 * (k - 6)) (nI (mm / 832 * 832 + w)) ha hT hS (by omega) (by omega) (fun q t hq => by have := hlt q t hq; omega)
      rw [low_832 hmm hw] at hact
      refine l_invS' (q := 151) (hact) gM_acts rfl hy_L_acts rfl rfl rfl rfl (Nat.le_of_ble_eq_true rfl) (show ku + 6 ≤ 604238 ∧ wu + 54 ≤ 7289534 by omega) dL_law_148 rfl ?_
      rintro r3 n3 T3 I3 R3 ⟨hr3, hn3, hT3, hS3⟩
      rw [hr3, hT3]
      have hS4 : LST T R3 I3 x a (6 * (k + 1 - 6)) (240 * (k + 1 - 6)) := by
        by_cases h6 : k < 6
        · have h3 := hk6 h6
          rw [if_pos h3, if_pos h3] at hS3
          exact LST_mono hS3 (by omega) (by omega)
        · exact LST_mono hS3 (by split <;> omega) (by split <;> omega)
      show z_L p e s m args below meth c G muL (9, 604238, 7289534) QL n3 T I3 R3 (ku + 6) (wu + 54) 151 _ [.int 1]
      refine l_istore (q := 153) dL_law_151 (by decide) rfl ?_
      refine l_iinc (q := 156) dL_law_153 rfl (nI_add _ 1) (by decide) rfl ?_
      refine l_goto (q := 71) dL_law_156 (by decide) ?_
      exact ih n3 _ _ I3 R3 (by omega) hS4 (by omega) (by omega) _ (by rw [zI1]; rfl)
    refine l_pick [0, 1, 2, 3, 4, 5, 6, 7, 8, 9] hls ?_
    refine l_iload (q := 73) (i := 9) dL_law_71 rfl rfl ?_
    refine l_bipush (q := 75) (v := nI 12) dL_law_73 (by rfl) rfl ?_
    refine l_icmpn_ge (rfl) (rfl) (by omega) (by omega) (tgt := 159) (q := 78) dL_law_75 (by decide) rfl (fun hc => absurd hc (by omega)) (fun _ => ?_)
    refine l_iload (q := 80) (i := 8) dL_law_78 rfl rfl ?_
    refine l_if_eq (tgt := 159) (q := 83) dL_law_80 (by decide) rfl (fun hc => False.elim (absurd hc (by decide))) (fun _ => ?_)
    refine l_aload_n (q := 84) dL_law_83 rfl rfl rfl ?_
    refine l_aload_n (q := 85) dL_law_84 rfl rfl rfl ?_
    refine l_aload_n (q := 86) dL_law_85 rfl rfl rfl ?_
    refine l_aload (q := 88) dL_law_86 rfl rfl ?_
    refine l_aload (q := 90) dL_law_88 rfl rfl ?_
    refine l_aload (q := 92) dL_law_90 rfl rfl ?_
    refine l_aload (q := 94) dL_law_92 rfl rfl ?_
    refine l_aload_n (q := 95) dL_law_94 rfl rfl rfl ?_
    refine l_iconst (q := 96) (v := nI 1) dL_law_95 (by rfl) rfl ?_
    refine l_iload (q := 98) (i := 9) dL_law_96 rfl rfl ?_
    refine l_iaddE (q := 99) dL_law_98 (nI_add _ _) rfl ?_
    refine l_invSX (q := 102) hX hbG (c_L_cell G hL0 (1 + k) (by omega)) (gM gL_law_L_cell) rfl hy_L_cell rfl rfl rfl rfl (Nat.le_of_ble_eq_true rfl) (show ku + 0 ≤ 604238 ∧ wu + 0 ≤ 7289534 by omega) dL_law_99 rfl (l_rv ?_)
    have hmm : (cellV L0 xs (1 + k)).toBitVec.toNat % 2 ^ 31 < 2 ^ 31 := Nat.mod_lt _ (by decide)
    refine l_ldc (q := 104) (i := 5) (v := 2147483647) rfl dL_law_102 rfl ?_
    refine l_iand (q := 105) dL_law_104 rfl ?_
    rw [pk_and (cellV L0 xs (1 + k)) 31 (by decide +kernel)]
    generalize (cellV L0 xs (1 + k)).toBitVec.toNat % 2 ^ 31 = mm at hmm
    refine l_sipush (q := 108) (v := nI 832) dL_law_105 (by rfl) rfl ?_
    refine l_idivE (q := 109) dL_law_108 (by decide) (pk_div (by omega) (by decide) (by decide)) rfl ?_
    refine l_sipush (q := 112) (v := nI 832) dL_law_109 (by rfl) rfl ?_
    refine l_imulE (q := 113) dL_law_112 (pk_mul _ _) rfl ?_
    refine l_iload (q := 115) (i := 9) dL_law_113 rfl rfl ?_
    refine l_iconst (q := 116) (v := nI 2) dL_law_115 (by rfl) rfl ?_
    refine l_icmpn_ge (rfl) (rfl) (by omega) (by omega) (tgt := 123) (q := 119) dL_law_116 (by decide) rfl (fun h116 => ?_) (fun h116 => ?_)
    · refine l_iload (q := 125) (i := 9) dL_law_123 rfl rfl ?_
      refine l_bipush (q := 127) (v := nI 6) dL_law_125 (by rfl) rfl ?_
      refine l_icmpn_ge (rfl) (rfl) (by omega) (by omega) (tgt := 134) (q := 130) dL_law_127 (by decide) rfl (fun h127 => ?_) (fun h127 => ?_)
      · refine l_iload (q := 136) (i := 9) dL_law_134 rfl rfl ?_
        refine l_bipush (q := 138) (v := nI 9) dL_law_136 (by rfl) rfl ?_
        refine l_icmpn_ge (rfl) (rfl) (by omega) (by omega) (tgt := 146) (q := 141) dL_law_138 (by decide) rfl (fun h138 => ?_) (fun h138 => ?_)
        · refine l_iconst (q := 147) (v := nI 3) dL_law_146 (by rfl) rfl ?_
          exact next 3 mm (by decide) hmm (fun q => by omega) _ rfl
        · refine l_bipush (q := 143) (v := nI 10) dL_law_141 (by rfl) rfl ?_
          refine l_goto (q := 147) dL_law_143 (by decide) ?_
          exact next 10 mm (by decide) hmm (fun q => by omega) _ rfl
      · refine l_iconst (q := 131) (v := nI 1) dL_law_130 (by rfl) rfl ?_
        refine l_goto (q := 147) dL_law_131 (by decide) ?_
        exact next 1 mm (by decide) hmm (fun q => by decide) _ rfl
    · refine l_iconst (q := 120) (v := nI 0) dL_law_119 (by rfl) rfl ?_
      refine l_goto (q := 147) dL_law_120 (by decide) ?_
      exact next 0 mm (by decide) hmm (fun q => by decide) _ rfl
set_option maxRecDepth 100000 in
set_option maxHeartbeats 4000000 in
theorem law_go {p : Program} {e : Env} {s : State} {m : MethodId} {args : Array Value} {below : List Frame} {meth : Method} {c : Code} {G : zG} {b L0 : Nat} {xs : Nat → Int32} (hX : va_X b L0 xs s s.heap) (hG : G.2.2 = s.heap.size) (hL0 : L0 ≤ 260) : z_L p e s m args below meth c G muL (9, 604238, 7289534) QL s.heap.size (fun _ => none) (fun _ _ => 0) (fun _ _ => none) 0 0 0 [(0, .ref b)] [] := by
  have hbG : b < G.2.2 := by rw [hG]; exact X_lt hX
  generalize hx : s.heap.size = x
  have inl7 : ∀ w, w ∈ wsX70 → w ∈ wsM := fun w h => List.mem_append_left _ (inlX7 w h)
  refine l_new (q := 3) 7 0 1 2 tyX7 tyX7_ok inl7 rfl rfl rfl rfl z_def7 (by decide) dL_law_0 rfl ?_
  refine l_dup (q := 4) dL_law_3 rfl rfl ?_
  refine l_invI' (q := 7) (i := 6) (j := 7) (l := 2) (c_X7_init G x rfl (zN_s _ _ _)) (gM gL_law_X7_init) rfl rfl rfl rfl hy_X7_init rfl rfl rfl rfl (Nat.le_of_ble_eq_true rfl) (by decide) dL_law_4 rfl ?_
  rintro r1 n1 T1 I1 R1 ⟨rfl, rfl, h1, hS⟩
  show z_L p e s m args below meth c G muL (9, 604238, 7289534) QL (x + 595) T1 I1 R1 (0 + 1 + 594) (0 + 5 + 4770) 7 _ [.ref x]
  refine l_astore_n (q := 8) dL_law_7 rfl (by decide) rfl ?_
  refine l_bipush (q := 10) (v := nI 9) dL_law_8 (by rfl) rfl ?_
  refine l_newa (q := 12) (atype := .int) (ty := .int) (9) 3 rfl rfl (fun _ _ h => h) (by rfl) (by decide) (fun _ => rfl) (by decide) (by decide) dL_law_10 rfl ?_
  refine l_astore_n (q := 13) dL_law_12 rfl (by decide) rfl ?_
  refine l_bipush (q := 15) (v := nI 24) dL_law_13 (by rfl) rfl ?_
  refine l_newa (q := 17) (atype := .int) (ty := .int) (24) 3 rfl rfl (fun _ _ h => h) (by rfl) (by decide) (fun _ => rfl) (by decide) (by decide) dL_law_15 rfl ?_
  refine l_astore_n (q := 18) dL_law_17 rfl (by decide) rfl ?_
  refine l_bipush (q := 20) (v := nI 40) dL_law_18 (by rfl) rfl ?_
  refine l_newa (q := 22) (atype := .int) (ty := .int) (40) 3 rfl rfl (fun _ _ h => h) (by rfl) (by decide) (fun _ => rfl) (by decide) (by decide) dL_law_20 rfl ?_
  refine l_astore (q := 24) dL_law_22 (by decide) rfl ?_
  refine l_bipush (q := 26) (v := nI 48) dL_law_24 (by rfl) rfl ?_
  refine l_newa (q := 28) (atype := .int) (ty := .int) (48) 3 rfl rfl (fun _ _ h => h) (by rfl) (by decide) (fun _ => rfl) (by decide) (by decide) dL_law_26 rfl ?_
  refine l_astore (q := 30) dL_law_28 (by decide) rfl ?_
  refine l_bipush (q := 32) (v := nI 45) dL_law_30 (by rfl) rfl ?_
  refine l_newa (q := 34) (atype := .int) (ty := .int) (45) 3 rfl rfl (fun _ _ h => h) (by rfl) (by decide) (fun _ => rfl) (by decide) (by decide) dL_law_32 rfl ?_
  refine l_astore (q := 36) dL_law_34 (by decide) rfl ?_
  refine l_bipush (q := 38) (v := nI 64) dL_law_36 (by rfl) rfl ?_
  refine l_newa (q := 40) (atype := .int) (ty := .int) (64) 3 rfl rfl (fun _ _ h => h) (by rfl) (by decide) (fun _ => rfl) (by decide) (by decide) dL_law_38 rfl ?_
  refine l_astore (q := 42) dL_law_40 (by decide) rfl ?_
  have hq : ∀ q, q < x + 595 → (zN (zN (zN (zN (zN (zN T1 (x + 595) (some (.inr (.int, 9)))) (x + 595 + 1) (some (.inr (.int, 24)))) (x + 595 + 1 + 1) (some (.inr (.int, 40)))) (x + 595 + 1 + 1 + 1) (some (.inr (.int, 48)))) (x + 595 + 1 + 1 + 1 + 1) (some (.inr (.int, 45)))) (x + 595 + 1 + 1 + 1 + 1 + 1) (some (.inr (.int, 64)))) q = T1 q ∧ (zN (zN (zN (zN (zN (zN I1 (x + 595) (fun _ => 0)) (x + 595 + 1) (fun _ => 0)) (x + 595 + 1 + 1) (fun _ => 0)) (x + 595 + 1 + 1 + 1) (fun _ => 0)) (x + 595 + 1 + 1 + 1 + 1) (fun _ => 0)) (x + 595 + 1 + 1 + 1 + 1 + 1) (fun _ => 0)) q = I1 q ∧ (zN (zN (zN (zN (zN (zN R1 (x + 595) (fun _ => none)) (x + 595 + 1) (fun _ => none)) (x + 595 + 1 + 1) (fun _ => none)) (x + 595 + 1 + 1 + 1) (fun _ => none)) (x + 595 + 1 + 1 + 1 + 1) (fun _ => none)) (x + 595 + 1 + 1 + 1 + 1 + 1) (fun _ => none)) q = R1 q := fun q hq => ⟨by rw [zN_n _ _ (by omega), zN_n _ _ (by omega), zN_n _ _ (by omega), zN_n _ _ (by omega), zN_n _ _ (by omega), zN_n _ _ (by omega)], by rw [zN_n _ _ (by omega), zN_n _ _ (by omega), zN_n _ _ (by omega), zN_n _ _ (by omega), zN_n _ _ (by omega), zN_n _ _ (by omega)], by rw [zN_n _ _ (by omega), zN_n _ _ (by omega), zN_n _ _ (by omega), zN_n _ _ (by omega), zN_n _ _ (by omega), zN_n _ _ (by omega)]⟩
  have t0 : (zN (zN (zN (zN (zN (zN T1 (x + 595) (some (.inr (.int, 9)))) (x + 595 + 1) (some (.inr (.int, 24)))) (x + 595 + 1 + 1) (some (.inr (.int, 40)))) (x + 595 + 1 + 1 + 1) (some (.inr (.int, 48)))) (x + 595 + 1 + 1 + 1 + 1) (some (.inr (.int, 45)))) (x + 595 + 1 + 1 + 1 + 1 + 1) (some (.inr (.int, 64)))) (x + 595) = some (.inr (.int, 9)) := by rw [zN_n _ _ (by omega), zN_n _ _ (by omega), zN_n _ _ (by omega), zN_n _ _ (by omega), zN_n _ _ (by omega), zN_s]
  have t1 : (zN (zN (zN (zN (zN (zN T1 (x + 595) (some (.inr (.int, 9)))) (x + 595 + 1) (some (.inr (.int, 24)))) (x + 595 + 1 + 1) (some (.inr (.int, 40)))) (x + 595 + 1 + 1 + 1) (some (.inr (.int, 48)))) (x + 595 + 1 + 1 + 1 + 1) (some (.inr (.int, 45)))) (x + 595 + 1 + 1 + 1 + 1 + 1) (some (.inr (.int, 64)))) (x + 595 + 1) = some (.inr (.int, 24)) := by rw [zN_n _ _ (by omega), zN_n _ _ (by omega), zN_n _ _ (by omega), zN_n _ _ (by omega), zN_s]
  have t2 : (zN (zN (zN (zN (zN (zN T1 (x + 595) (some (.inr (.int, 9)))) (x + 595 + 1) (some (.inr (.int, 24)))) (x + 595 + 1 + 1) (some (.inr (.int, 40)))) (x + 595 + 1 + 1 + 1) (some (.inr (.int, 48)))) (x + 595 + 1 + 1 + 1 + 1) (some (.inr (.int, 45)))) (x + 595 + 1 + 1 + 1 + 1 + 1) (some (.inr (.int, 64)))) (x + 595 + 2) = some (.inr (.int, 40)) := by rw [zN_n _ _ (by omega), zN_n _ _ (by omega), zN_n _ _ (by omega)]; exact zN_s _ _ _
  have t3 : (zN (zN (zN (zN (zN (zN T1 (x + 595) (some (.inr (.int, 9)))) (x + 595 + 1) (some (.inr (.int, 24)))) (x + 595 + 1 + 1) (some (.inr (.int, 40)))) (x + 595 + 1 + 1 + 1) (some (.inr (.int, 48)))) (x + 595 + 1 + 1 + 1 + 1) (some (.inr (.int, 45)))) (x + 595 + 1 + 1 + 1 + 1 + 1) (some (.inr (.int, 64)))) (x + 595 + 3) = some (.inr (.int, 48)) := by rw [zN_n _ _ (by omega), zN_n _ _ (by omega)]; exact zN_s _ _ _
  have t4 : (zN (zN (zN (zN (zN (zN T1 (x + 595) (some (.inr (.int, 9)))) (x + 595 + 1) (some (.inr (.int, 24)))) (x + 595 + 1 + 1) (some (.inr (.int, 40)))) (x + 595 + 1 + 1 + 1) (some (.inr (.int, 48)))) (x + 595 + 1 + 1 + 1 + 1) (some (.inr (.int, 45)))) (x + 595 + 1 + 1 + 1 + 1 + 1) (some (.inr (.int, 64)))) (x + 595 + 4) = some (.inr (.int, 45)) := by rw [zN_n _ _ (by omega)]; exact zN_s _ _ _
  have t5 : (zN (zN (zN (zN (zN (zN T1 (x + 595) (some (.inr (.int, 9)))) (x + 595 + 1) (some (.inr (.int, 24)))) (x + 595 + 1 + 1) (some (.inr (.int, 40)))) (x + 595 + 1 + 1 + 1) (some (.inr (.int, 48)))) (x + 595 + 1 + 1 + 1 + 1) (some (.inr (.int, 45)))) (x + 595 + 1 + 1 + 1 + 1 + 1) (some (.inr (.int, 64)))) (x + 595 + 5) = some (.inr (.int, 64)) := zN_s _ _ _
  have i0 : (zN (zN (zN (zN (zN (zN I1 (x + 595) (fun _ => 0)) (x + 595 + 1) (fun _ => 0)) (x + 595 + 1 + 1) (fun _ => 0)) (x + 595 + 1 + 1 + 1) (fun _ => 0)) (x + 595 + 1 + 1 + 1 + 1) (fun _ => 0)) (x + 595 + 1 + 1 + 1 + 1 + 1) (fun _ => 0)) (x + 595) = fun _ => 0 := by rw [zN_n _ _ (by omega), zN_n _ _ (by omega), zN_n _ _ (by omega), zN_n _ _ (by omega), zN_n _ _ (by omega), zN_s]
  have i1 : (zN (zN (zN (zN (zN (zN I1 (x + 595) (fun _ => 0)) (x + 595 + 1) (fun _ => 0)) (x + 595 + 1 + 1) (fun _ => 0)) (x + 595 + 1 + 1 + 1) (fun _ => 0)) (x + 595 + 1 + 1 + 1 + 1) (fun _ => 0)) (x + 595 + 1 + 1 + 1 + 1 + 1) (fun _ => 0)) (x + 595 + 1) = fun _ => 0 := by rw [zN_n _ _ (by omega), zN_n _ _ (by omega), zN_n _ _ (by omega), zN_n _ _ (by omega), zN_s]
  have i2 : (zN (zN (zN (zN (zN (zN I1 (x + 595) (fun _ => 0)) (x + 595 + 1) (fun _ => 0)) (x + 595 + 1 + 1) (fun _ => 0)) (x + 595 + 1 + 1 + 1) (fun _ => 0)) (x + 595 + 1 + 1 + 1 + 1) (fun _ => 0)) (x + 595 + 1 + 1 + 1 + 1 + 1) (fun _ => 0)) (x + 595 + 2) = fun _ => 0 := by rw [zN_n _ _ (by omega), zN_n _ _ (by omega), zN_n _ _ (by omega)]; exact zN_s _ _ _
  have i3 : (zN (zN (zN (zN (zN (zN I1 (x + 595) (fun _ => 0)) (x + 595 + 1) (fun _ => 0)) (x + 595 + 1 + 1) (fun _ => 0)) (x + 595 + 1 + 1 + 1) (fun _ => 0)) (x + 595 + 1 + 1 + 1 + 1) (fun _ => 0)) (x + 595 + 1 + 1 + 1 + 1 + 1) (fun _ => 0)) (x + 595 + 3) = fun _ => 0 := by rw [zN_n _ _ (by omega), zN_n _ _ (by omega)]; exact zN_s _ _ _
  generalize (zN (zN (zN (zN (zN (zN T1 (x + 595) (some (.inr (.int, 9)))) (x + 595 + 1) (some (.inr (.int, 24)))) (x + 595 + 1 + 1) (some (.inr (.int, 40)))) (x + 595 + 1 + 1 + 1) (some (.inr (.int, 48)))) (x + 595 + 1 + 1 + 1 + 1) (some (.inr (.int, 45)))) (x + 595 + 1 + 1 + 1 + 1 + 1) (some (.inr (.int, 64)))) = T2 at hq t0 t1 t2 t3 t4 t5
  generalize (zN (zN (zN (zN (zN (zN I1 (x + 595) (fun _ => 0)) (x + 595 + 1) (fun _ => 0)) (x + 595 + 1 + 1) (fun _ => 0)) (x + 595 + 1 + 1 + 1) (fun _ => 0)) (x + 595 + 1 + 1 + 1 + 1) (fun _ => 0)) (x + 595 + 1 + 1 + 1 + 1 + 1) (fun _ => 0)) = I2 at hq i0 i1 i2 i3
  generalize (zN (zN (zN (zN (zN (zN R1 (x + 595) (fun _ => none)) (x + 595 + 1) (fun _ => none)) (x + 595 + 1 + 1) (fun _ => none)) (x + 595 + 1 + 1 + 1) (fun _ => none)) (x + 595 + 1 + 1 + 1 + 1) (fun _ => none)) (x + 595 + 1 + 1 + 1 + 1 + 1) (fun _ => none)) = R2 at hq
  refine l_forget (T0 := fun q => if q < x + 595 + 6 then T2 q else none) (fun q t h => by
    by_cases hlt : q < x + 595 + 6
    · rw [if_pos hlt] at h; exact h
    · rw [if_neg hlt] at h; cases h) ?_
  have f : ∀ q, q < x + 595 + 6 → (fun q => if q < x + 595 + 6 then T2 q else none) q = T2 q := fun q hq => if_pos hq
  have hlt : ∀ q t, (fun q => if q < x + 595 + 6 then T2 q else none) q = some t → q < x + 595 + 6 := fun q t h => by
    by_cases hlt : q < x + 595 + 6
    · exact hlt
    · have h : (if q < x + 595 + 6 then T2 q else none) = some t := h
      rw [if_neg hlt] at h; cases h
  generalize (fun q => if q < x + 595 + 6 then T2 q else none) = T3 at f hlt
  have hTL : LT T3 (x + 595) := ⟨(f _ (by omega)).trans t0, (f _ (by omega)).trans t1, (f _ (by omega)).trans t2, (f _ (by omega)).trans t3, (f _ (by omega)).trans t4, (f _ (by omega)).trans t5⟩
  have hrt : rtI x T3 I2 R2 := rt_fr hS (fun q q1 q2 => ⟨(f q (by omega)).trans (hq q q2).1, (hq q q2).2.1, (hq q q2).2.2⟩)
  have hSt := rt_St hrt (fun _ _ => 0)
  have hTg := hTL.1
  refine l_aload_n (q := 43) dL_law_42 rfl rfl rfl ?_
  refine l_bipush (q := 45) (v := nI 7) dL_law_43 (by rfl) rfl ?_
  refine l_ldc (q := 47) (i := 4) (v := 1000000) rfl dL_law_45 rfl ?_
  refine l_iast (q := 48) _ (by with_reducible assumption) (rfl) (by omega) (by decide) dL_law_47 rfl ?_
  refine l_aload_n (q := 49) dL_law_48 rfl rfl rfl ?_
  refine l_bipush (q := 51) (v := nI 8) dL_law_49 (by rfl) rfl ?_
  refine l_bipush (q := 53) (v := nI 10) dL_law_51 (by rfl) rfl ?_
  refine l_iast (q := 54) _ (by with_reducible assumption) (rfl) (by omega) (by decide) dL_law_53 rfl ?_
  have hSt2 : z_St T3 R2 (zw (zw I2 (x + 595) 7 1000000) (x + 595) 8 (nI 10)) x g00 (fun _ _ => 0) 0 (fun _ => 0) 0 := St_f hSt (fun q q1 q2 => ⟨(zw_row _ _ (by omega)).trans (zw_row _ _ (by omega)), rfl⟩)
  have hLW : LWP (zw (zw I2 (x + 595) 7 1000000) (x + 595) 8 (nI 10)) (x + 595) 0 g00 (planL g00 0) := by
    unfold LWP
    rw [zw_upd, zw_upd, i0, zw_row _ _ (show x + 595 + 1 ≠ x + 595 by omega), zw_row _ _ (show x + 595 + 1 ≠ x + 595 by omega), i1, zw_row _ _ (show x + 595 + 2 ≠ x + 595 by omega), zw_row _ _ (show x + 595 + 2 ≠ x + 595 by omega), i2, zw_row _ _ (show x + 595 + 3 ≠ x + 595 by omega), zw_row _ _ (show x + 595 + 3 ≠ x + 595 by omega), i3]
    refine ⟨fun c hc hc2 => ?_, by rw [upd_n _ _ (by decide), upd_n _ _ (by decide)]; exact nI_0.symm, fun c hc => (g00_n (by omega) (by omega)).symm, fun c hc => (g00_n (by omega) (by omega)).symm, fun c hc => (g00_n (by omega) (by omega)).symm, rfl⟩
    by_cases c8 : c = 8
    · rw [c8, upd_s]; rfl
    · rw [upd_n _ _ c8]
      by_cases c7 : c = 7
      · rw [c7, upd_s]; rfl
      · rw [upd_n _ _ c7, g00_n c7 c8]
  have hLST : LST T3 R2 (zw (zw I2 (x + 595) 7 1000000) (x + 595) 8 (nI 10)) x (x + 595) 0 0 := ⟨g00, fun _ _ => 0, 0, 0, 0, 0, 0, 0, hSt2, hLW, PH_0, Nat.le_refl _⟩
  generalize zw (zw I2 (x + 595) 7 1000000) (x + 595) 8 (nI 10) = I3 at hLST
  refine l_aload_n (q := 55) dL_law_54 rfl rfl rfl ?_
  refine l_aload_n (q := 56) dL_law_55 rfl rfl rfl ?_
  refine l_aload_n (q := 57) dL_law_56 rfl rfl rfl ?_
  refine l_aload (q := 59) dL_law_57 rfl rfl ?_
  refine l_aload (q := 61) dL_law_59 rfl rfl ?_
  refine l_aload (q := 63) dL_law_61 rfl rfl ?_
  refine l_invS (q := 66) (c_L_isSo G x (x + 595) 0 0 hTL hLST (by omega)) gM_isSo rfl hy_L_isSo rfl rfl rfl rfl (Nat.le_of_ble_eq_true rfl) (by decide) dL_law_63 rfl (l_rv ?_)
  refine l_istore (q := 68) dL_law_66 (by decide) rfl ?_
  refine l_iconst (q := 69) (v := nI 0) dL_law_68 (by rfl) rfl ?_
  refine l_istore (q := 71) dL_law_69 (by decide) rfl ?_
  exact law_first hX hbG hL0 rfl hrt.1.1 hTL hlt 0 (Nat.zero_le _) (x + 595 + 6) _ _ I3 R2 (Nat.le_refl _) (LST_mono hLST (by omega) (by omega)) (by decide) (by decide) _ (by rw [zI1]; rfl)

