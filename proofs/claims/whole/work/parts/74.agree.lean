/-! THE LAW: the class at x and the reference at m = x + 595 in one state; each pair of calls keeps it and answers alike -/
def LSt (T : zTT) (x m : Nat) (I : zII) (R : zRR) : Prop := z_Mod T R m ∧ ∃ pc y : Nat, I m 3 = nI pc ∧ I m 5 = nI y ∧ z_St T R I x (I (m + 1)) (fun k j => I (m + 3) (657 * k + j)) pc (I (m + 4)) y
theorem z_Mod_R {T : zTT} {R R' : zRR} {m : Nat} (h : z_Mod T R m) (hR : R' m = R m) : z_Mod T R' m := by
  obtain ⟨h0, ⟨a, a'⟩, ⟨b, b'⟩, ⟨c, c'⟩, ⟨d, d'⟩, ⟨e, e'⟩, ⟨f, f'⟩, ⟨g, g'⟩⟩ := h
  exact ⟨h0, ⟨a, (congrFun hR 0).trans a'⟩, ⟨b, (congrFun hR 1).trans b'⟩, ⟨c, (congrFun hR 2).trans c'⟩, ⟨d, (congrFun hR 4).trans d'⟩, ⟨e, (congrFun hR 6).trans e'⟩, ⟨f, (congrFun hR 7).trans f'⟩, ⟨g, (congrFun hR 9).trans g'⟩⟩
theorem St_inv {T : zTT} {R : zRR} {I : zII} {x pc y : Nat} {g tx : Nat → Int32} {p : Nat → Nat → Int32} (h : z_St T R I x g p pc tx y) : ∃ nr nd np st : Nat, INV nr nd np st g ∧ st ≤ 5000 := by
  obtain ⟨-, ⟨st, ⟨-, nr, nd, np, F, hI, -, -, -⟩, hst, -⟩, -⟩ := h
  exact ⟨nr, nd, np, st, hI, hst⟩
theorem St_pc4 {T : zTT} {R : zRR} {I : zII} {x pc y : Nat} {g tx : Nat → Int32} {p : Nat → Nat → Int32} (h : z_St T R I x g p pc tx y) : pc ≤ 4 := h.2.2.2.1.2.2.1.2
theorem St_y80 {T : zTT} {R : zRR} {I : zII} {x pc y : Nat} {g tx : Nat → Int32} {p : Nat → Nat → Int32} (h : z_St T R I x g p pc tx y) : y ≤ 80 := h.2.2.2.2.1.2
theorem St_cong {T : zTT} {R R' : zRR} {I I' : zII} {x pc y : Nat} {g tx : Nat → Int32} {p p' : Nat → Nat → Int32} (h : z_St T R I x g p pc tx y) (hI : ∀ q, x ≤ q → q < x + 595 → I' q = I q) (hR : ∀ q, x ≤ q → q < x + 595 → R' q = R q) (hp : ∀ k c, k < pc → c < 657 → p' k c = p k c) : z_St T R' I' x g p' pc tx y := by
  obtain ⟨h1, h2, ⟨st', g', h3⟩, h4, ⟨h5, h6⟩, h7, h8⟩ := h
  exact ⟨z_RT_R h1 (hR x (by omega) (by omega)) (hR (x + 591) (by omega) (by omega)), z_Hb_f h2 (fun q _ _ => hI q (by omega) (by omega)) (fun q _ _ => hR q (by omega) (by omega)), ⟨st', g', z_Hs_f h3 (fun q _ _ => hI q (by omega) (by omega)) (fun q _ _ => hR q (by omega) (by omega))⟩, z_Hist_p (z_Hist_f h4 (fun q _ _ => hI q (by omega) (by omega)) (fun q _ _ => hR q (by omega) (by omega))) hp, ⟨by rw [hI _ (by omega) (by omega)]; exact h5, h6⟩, by rw [hI _ (by omega) (by omega)]; exact h7, h8⟩
theorem LSt_mk {T : zTT} {R R1 : zRR} {I I1 I2 : zII} {x m pc y : Nat} {g tx : Nat → Int32} {p : Nat → Nat → Int32} (hm : m = x + 595) (hM : z_Mod T R m) (hf : z_fx x I I1 R R1) (hS : z_St T R1 I1 x g p pc tx y) (hl : ∀ q, q < m → I2 q = I1 q) (e1 : I2 (m + 1) = g) (e3 : ∀ k c, k < pc → c < 657 → I2 (m + 3) (657 * k + c) = p k c) (e4 : I2 (m + 4) = tx) (h3 : I2 m 3 = nI pc) (h5 : I2 m 5 = nI y) : LSt T x m I2 R1 := by
  refine ⟨z_Mod_R hM (hf m (by omega)).2, pc, y, h3, h5, ?_⟩
  rw [e1, e4]
  exact St_cong hS (fun q _ _ => hl q (by omega)) (fun _ _ _ => rfl) e3
theorem chP_push {P g : Nat → Int32} {pc k c : Nat} (h4 : pc ≤ 4) (hk : k < chC pc + 1) (hc : c < 657) : chP P g pc (657 * k + c) = pushP (fun k j => P (657 * k + j)) pc g k c := by
  unfold chP cpP pushP
  by_cases e : k = chC pc
  · subst e
    rw [if_pos (by omega), if_pos rfl, show 657 * chC pc + c - 657 * chC pc = c by omega]
  · rw [if_neg (by omega), if_neg e]
    unfold chB
    by_cases h : pc = 4
    · subst h
      have : chC 4 = 3 := rfl
      rw [if_pos rfl, if_pos rfl, shP, if_pos (by omega), show 657 * k + c + 657 = 657 * (k + 1) + c by omega]
    · rw [if_neg h, if_neg h]
theorem LSt_up {T : zTT} {R R1 : zRR} {I I1 I2 : zII} {x m pc y : Nat} (hm : m = x + 595) (hM : z_Mod T R m) (h3 : I m 3 = nI pc) (h5 : I m 5 = nI y) (h4 : pc ≤ 4) (o : Option (Nat → Int32)) (hS : z_nx T R1 I1 x (I (m + 1)) (fun k j => I (m + 3) (657 * k + j)) pc (I (m + 4)) y o) (hf : z_fx x I I1 R R1) (hU : z_upto m pc I1 I2 o) : LSt T x m I2 R1 := by
  have f : ∀ q, m ≤ q → I1 q = I q := fun q hq => (hf q (by omega)).1
  cases o with
  | none =>
    obtain ⟨u1, u2, u3⟩ := hU
    exact LSt_mk hm hM hf hS (fun q hq => u3 q (by omega) (by omega) (by omega)) ((u3 _ (by omega) (by omega) (by omega)).trans (f _ (by omega))) (fun k c _ _ => congrFun ((u3 _ (by omega) (by omega) (by omega)).trans (f _ (by omega))) _) ((u3 _ (by omega) (by omega) (by omega)).trans (f _ (by omega))) (u1.trans ((congrFun (f m (Nat.le_refl _)) 3).trans h3)) (u2.trans ((congrFun (f m (Nat.le_refl _)) 5).trans h5))
  | some g' =>
    obtain ⟨u0, u1, ⟨u2, u3⟩, u4⟩ := hU
    refine LSt_mk hm hM hf hS (fun q hq => u4 q (by omega) (by omega) (by omega) (by omega) (by omega)) u0 (fun k c hk hc => ?_) ((u4 _ (by omega) (by omega) (by omega) (by omega) (by omega)).trans (f _ (by omega))) u2 (u3.trans ((congrFun (f m (Nat.le_refl _)) 5).trans h5))
    rw [u1, f _ (by omega), f _ (by omega)]
    exact chP_push h4 hk hc
def Agr (G : zG) (x m n : Nat) (T : zTT) (I : zII) (R : zRR) (y7 : MethodName) (ws7 : List Cond) (d7 : Nat) (y8 : MethodName) (ws8 : List Cond) (d8 : Nat) (as : List Value) : Prop := ∃ (a : Int32) (A : zII → zRR → Prop), Ct G y7 ws7 (d7, 0, 0) (.ref x :: as) n T I R (z_rel (some (.int a)) n T A) ∧ ∀ (I1 : zII) (R1 : zRR), A I1 R1 → Ct G y8 ws8 (d8, 0, 0) (.ref m :: as) n T I1 R1 (z_rel (some (.int a)) n T (LSt T x m))
section AG
variable {G : zG} {x m n : Nat} {T : zTT} {I : zII} {R : zRR} {pc y : Nat} {y7 y8 : MethodName} {ws7 ws8 : List Cond} {d7 d8 : Nat} {as : List Value} {a : Int32}
theorem agA {o : Option (Nat → Int32)} (hm : m = x + 595) (hM : z_Mod T R m) (h3 : I m 3 = nI pc) (h5 : I m 5 = nI y) (h4 : pc ≤ 4) (h7 : Ct G y7 ws7 (d7, 0, 0) (.ref x :: as) n T I R (z_rel (some (.int a)) n T (fun I' R' => z_nx T R' I' x (I (m + 1)) (fun k j => I (m + 3) (657 * k + j)) pc (I (m + 4)) y o ∧ z_fx x I I' R R'))) (h8 : ∀ (I1 : zII) (R1 : zRR), z_Mod T R1 m → I1 (m + 1) = I (m + 1) → I1 (m + 4) = I (m + 4) → I1 m 3 = nI pc → I1 m 5 = nI y → Ct G y8 ws8 (d8, 0, 0) (.ref m :: as) n T I1 R1 (z_rel (some (.int a)) n T (fun I' R' => R' = R1 ∧ z_upto m pc I1 I' o))) : Agr G x m n T I R y7 ws7 d7 y8 ws8 d8 as := by
  refine ⟨a, _, h7, fun I1 R1 z => ?_⟩
  obtain ⟨z1, z2⟩ := z
  have f : ∀ q, m ≤ q → I1 q = I q := fun q hq => (z2 q (by omega)).1
  refine (h8 I1 R1 (z_Mod_R hM (z2 m (by omega)).2) (f _ (by omega)) (f _ (by omega)) ((congrFun (f m (Nat.le_refl _)) 3).trans h3) ((congrFun (f m (Nat.le_refl _)) 5).trans h5)).impR (fun I2 R2 u => ?_)
  obtain ⟨rfl, u⟩ := u
  exact LSt_up hm hM h3 h5 h4 o z1 z2 u
/-- what is only read, or written into scratch rows of the reference -/
theorem agC (hm : m = x + 595) (hM : z_Mod T R m) (h3 : I m 3 = nI pc) (h5 : I m 5 = nI y) (h7 : Ct G y7 ws7 (d7, 0, 0) (.ref x :: as) n T I R (z_rel (some (.int a)) n T (fun I' R' => z_St T R' I' x (I (m + 1)) (fun k j => I (m + 3) (657 * k + j)) pc (I (m + 4)) y ∧ z_fx x I I' R R'))) (h8 : ∀ (I1 : zII) (R1 : zRR), z_Mod T R1 m → I1 (m + 1) = I (m + 1) → I1 (m + 4) = I (m + 4) → I1 m 3 = nI pc → I1 m 5 = nI y → Ct G y8 ws8 (d8, 0, 0) (.ref m :: as) n T I1 R1 (z_rel (some (.int a)) n T (fun I' R' => R' = R1 ∧ (I' m 3 = I1 m 3 ∧ I' m 5 = I1 m 5) ∧ ∀ q, q < m ∨ q = m + 1 ∨ q = m + 3 ∨ q = m + 4 → I' q = I1 q))) : Agr G x m n T I R y7 ws7 d7 y8 ws8 d8 as := by
  refine ⟨a, _, h7, fun I1 R1 z => ?_⟩
  obtain ⟨z1, z2⟩ := z
  have f : ∀ q, m ≤ q → I1 q = I q := fun q hq => (z2 q (by omega)).1
  refine (h8 I1 R1 (z_Mod_R hM (z2 m (by omega)).2) (f _ (by omega)) (f _ (by omega)) ((congrFun (f m (Nat.le_refl _)) 3).trans h3) ((congrFun (f m (Nat.le_refl _)) 5).trans h5)).impR (fun I2 R2 u => ?_)
  obtain ⟨rfl, ⟨u1, u2⟩, u⟩ := u
  exact LSt_mk hm hM z2 z1 (fun q hq => u q (by omega)) ((u _ (by omega)).trans (f _ (by omega))) (fun k c _ _ => congrFun ((u _ (by omega)).trans (f _ (by omega))) _) ((u _ (by omega)).trans (f _ (by omega))) (u1.trans ((congrFun (f m (Nat.le_refl _)) 3).trans h3)) (u2.trans ((congrFun (f m (Nat.le_refl _)) 5).trans h5))
theorem ag_room (hm : m = x + 595) (hL : LSt T x m I R) (a0 a1 : Int32) : Agr G x m n T I R yX7_room wsX7_room 4 yX8_room wsX8_room 1 [.int a0, .int a1] := by
  obtain ⟨hM, pc, y, h3, h5, hS⟩ := hL
  obtain ⟨nr, nd, np, st, hI, hst⟩ := St_inv hS
  have h4 := St_pc4 hS
  have h80 := St_y80 hS
  exact agA hm hM h3 h5 h4 (c_X7_room G x pc y _ _ _ hS a0 a1) (fun I1 R1 hM1 e1 e4 e3 e5 => by
    have z := c_X8_room G (n := n) (T := T) (I := I1) (R := R1) m nr nd np st pc a0 a1 hM1 (by rw [e1]; exact hI) e3 h4
    rw [e1] at z
    exact z)
theorem ag_door (hm : m = x + 595) (hL : LSt T x m I R) (a0 a1 a2 a3 a4 : Int32) : Agr G x m n T I R yX7_door wsX7_door 4 yX8_door wsX8_door 3 [.int a0, .int a1, .int a2, .int a3, .int a4] := by
  obtain ⟨hM, pc, y, h3, h5, hS⟩ := hL
  obtain ⟨nr, nd, np, st, hI, hst⟩ := St_inv hS
  have h4 := St_pc4 hS
  have h80 := St_y80 hS
  exact agA hm hM h3 h5 h4 (c_X7_door G x pc y _ _ _ hS a0 a1 a2 a3 a4) (fun I1 R1 hM1 e1 e4 e3 e5 => by
    have z := c_X8_door G (n := n) (T := T) (I := I1) (R := R1) m nr nd np st pc a0 a1 a2 a3 a4 hM1 (by rw [e1]; exact hI) e3 h4
    rw [e1] at z
    exact z)
theorem ag_open (hm : m = x + 595) (hL : LSt T x m I R) (a0 a1 : Int32) : Agr G x m n T I R yX7_open wsX7_open 4 yX8_open wsX8_open 3 [.int a0, .int a1] := by
  obtain ⟨hM, pc, y, h3, h5, hS⟩ := hL
  obtain ⟨nr, nd, np, st, hI, hst⟩ := St_inv hS
  have h4 := St_pc4 hS
  have h80 := St_y80 hS
  exact agA hm hM h3 h5 h4 (c_X7_open G x pc y _ _ _ hS a0 a1) (fun I1 R1 hM1 e1 e4 e3 e5 => by
    have z := c_X8_open G (n := n) (T := T) (I := I1) (R := R1) m nr nd np st pc a0 a1 hM1 (by rw [e1]; exact hI) e3 h4
    rw [e1] at z
    exact z)
theorem ag_lock (hm : m = x + 595) (hL : LSt T x m I R) (a0 a1 : Int32) : Agr G x m n T I R yX7_lock wsX7_lock 4 yX8_lock wsX8_lock 1 [.int a0, .int a1] := by
  obtain ⟨hM, pc, y, h3, h5, hS⟩ := hL
  obtain ⟨nr, nd, np, st, hI, hst⟩ := St_inv hS
  have h4 := St_pc4 hS
  have h80 := St_y80 hS
  exact agA hm hM h3 h5 h4 (c_X7_lock G x pc y _ _ _ hS a0 a1) (fun I1 R1 hM1 e1 e4 e3 e5 => by
    have z := c_X8_lock G (n := n) (T := T) (I := I1) (R := R1) m nr nd np st pc a0 a1 hM1 (by rw [e1]; exact hI) e3 h4
    rw [e1] at z
    exact z)
theorem ag_set (hm : m = x + 595) (hL : LSt T x m I R) (a0 a1 : Int32) : Agr G x m n T I R yX7_set wsX7_set 4 yX8_set wsX8_set 1 [.int a0, .int a1] := by
  obtain ⟨hM, pc, y, h3, h5, hS⟩ := hL
  obtain ⟨nr, nd, np, st, hI, hst⟩ := St_inv hS
  have h4 := St_pc4 hS
  have h80 := St_y80 hS
  exact agA hm hM h3 h5 h4 (c_X7_set G x pc y _ _ _ hS a0 a1) (fun I1 R1 hM1 e1 e4 e3 e5 => by
    have z := c_X8_set G (n := n) (T := T) (I := I1) (R := R1) m pc a0 a1 hM1 e3 h4
    rw [e1] at z
    exact z)
theorem ag_sound (hm : m = x + 595) (hL : LSt T x m I R) (a0 a1 a2 a3 : Int32) : Agr G x m n T I R yX7_sound wsX7_sound 4 yX8_sound wsX8_sound 2 [.int a0, .int a1, .int a2, .int a3] := by
  obtain ⟨hM, pc, y, h3, h5, hS⟩ := hL
  obtain ⟨nr, nd, np, st, hI, hst⟩ := St_inv hS
  have h4 := St_pc4 hS
  have h80 := St_y80 hS
  exact agA hm hM h3 h5 h4 (c_X7_sound G x pc y _ _ _ hS a0 a1 a2 a3) (fun I1 R1 hM1 e1 e4 e3 e5 => by
    have z := c_X8_sound G (n := n) (T := T) (I := I1) (R := R1) m nr nd np st pc a0 a1 a2 a3 hM1 (by rw [e1]; exact hI) e3 h4
    rw [e1] at z
    exact z)
theorem ag_planDoor (hm : m = x + 595) (hL : LSt T x m I R) (a0 a1 a2 : Int32) : Agr G x m n T I R yX7_planDoor wsX7_planDoor 4 yX8_planDoor wsX8_planDoor 2 [.int a0, .int a1, .int a2] := by
  obtain ⟨hM, pc, y, h3, h5, hS⟩ := hL
  obtain ⟨nr, nd, np, st, hI, hst⟩ := St_inv hS
  have h4 := St_pc4 hS
  have h80 := St_y80 hS
  exact agA hm hM h3 h5 h4 (c_X7_planDoor G x pc y _ _ _ hS a0 a1 a2) (fun I1 R1 hM1 e1 e4 e3 e5 => by
    have z := c_X8_planDoor G (n := n) (T := T) (I := I1) (R := R1) m nr nd np st pc a0 a1 a2 hM1 (by rw [e1]; exact hI) e3 h4
    rw [e1] at z
    exact z)
theorem ag_cancel (hm : m = x + 595) (hL : LSt T x m I R) (a0 : Int32) : Agr G x m n T I R yX7_cancel wsX7_cancel 4 yX8_cancel wsX8_cancel 1 [.int a0] := by
  obtain ⟨hM, pc, y, h3, h5, hS⟩ := hL
  obtain ⟨nr, nd, np, st, hI, hst⟩ := St_inv hS
  have h4 := St_pc4 hS
  have h80 := St_y80 hS
  exact agA hm hM h3 h5 h4 (c_X7_cancel G x pc y _ _ _ hS a0) (fun I1 R1 hM1 e1 e4 e3 e5 => by
    have z := c_X8_cancel G (n := n) (T := T) (I := I1) (R := R1) m nr nd np st pc a0 hM1 (by rw [e1]; exact hI) e3 h4
    rw [e1] at z
    exact z)
theorem ag_pass (hm : m = x + 595) (hL : LSt T x m I R) (a0 : Int32) : Agr G x m n T I R yX7_pass wsX7_pass 5 yX8_pass wsX8_pass 5 [.int a0] := by
  obtain ⟨hM, pc, y, h3, h5, hS⟩ := hL
  obtain ⟨nr, nd, np, st, hI, hst⟩ := St_inv hS
  have h4 := St_pc4 hS
  have h80 := St_y80 hS
  exact agA hm hM h3 h5 h4 (c_X7_pass G x pc y _ _ _ hS a0) (fun I1 R1 hM1 e1 e4 e3 e5 => by
    have z := c_X8_pass G (n := n) (T := T) (I := I1) (R := R1) m nr nd np st pc a0 hM1 (by rw [e1]; exact hI) hst e3 h4
    rw [e1] at z
    exact z)
theorem ag_load (hm : m = x + 595) (hL : LSt T x m I R) : Agr G x m n T I R yX7_load wsX7_load 5 yX8_load wsX8_load 5 [] := by
  obtain ⟨hM, pc, y, h3, h5, hS⟩ := hL
  obtain ⟨nr, nd, np, st, hI, hst⟩ := St_inv hS
  have h4 := St_pc4 hS
  have h80 := St_y80 hS
  exact agA hm hM h3 h5 h4 (c_X7_load G x pc y _ _ _ hS) (fun I1 R1 hM1 e1 e4 e3 e5 => by
    have z := c_X8_load G (n := n) (T := T) (I := I1) (R := R1) m y nr nd np st pc  hM1 (by rw [e1]; exact hI) e5 h80 e3 h4
    rw [e1, e4] at z
    exact z)
/-- an answer that is only read, of the class -/
theorem rd7 {g tx : Nat → Int32} {p : Nat → Nat → Int32} (hS : z_St T R I x g p pc tx y) (h : Ct G y7 ws7 (d7, 0, 0) (.ref x :: as) n T I R (z_ret (some (.int a)) n T I R)) : Ct G y7 ws7 (d7, 0, 0) (.ref x :: as) n T I R (z_rel (some (.int a)) n T (fun I' R' => z_St T R' I' x g p pc tx y ∧ z_fx x I I' R R')) :=
  h.imp (fun r n' T' I' R' z => ⟨z.1, z.2.1, z.2.2.1, by rw [z.2.2.2.1, z.2.2.2.2]; exact ⟨hS, fun _ _ => ⟨rfl, rfl⟩⟩⟩)
theorem rd8 (h : Ct G y8 ws8 (d8, 0, 0) (.ref m :: as) n T I R (z_ret (some (.int a)) n T I R)) : Ct G y8 ws8 (d8, 0, 0) (.ref m :: as) n T I R (z_rel (some (.int a)) n T (fun I' R' => R' = R ∧ (I' m 3 = I m 3 ∧ I' m 5 = I m 5) ∧ ∀ q, q < m ∨ q = m + 1 ∨ q = m + 3 ∨ q = m + 4 → I' q = I q)) :=
  h.imp (fun r n' T' I' R' z => ⟨z.1, z.2.1, z.2.2.1, by rw [z.2.2.2.1, z.2.2.2.2]; exact ⟨rfl, ⟨rfl, rfl⟩, fun _ _ => rfl⟩⟩)
theorem sc8 (h : Ct G y8 ws8 (d8, 0, 0) (.ref m :: as) n T I R (z_rel (some (.int a)) n T (fun I' R' => R' = R ∧ z_scr m I I'))) : Ct G y8 ws8 (d8, 0, 0) (.ref m :: as) n T I R (z_rel (some (.int a)) n T (fun I' R' => R' = R ∧ (I' m 3 = I m 3 ∧ I' m 5 = I m 5) ∧ ∀ q, q < m ∨ q = m + 1 ∨ q = m + 3 ∨ q = m + 4 → I' q = I q)) :=
  h.impR (fun I' R' z => ⟨z.1, ⟨congrFun (z.2 m (by omega) (by omega)) 3, congrFun (z.2 m (by omega) (by omega)) 5⟩, fun q hq => z.2 q (by omega) (by omega)⟩)
theorem fr8 (h : Ct G y8 ws8 (d8, 0, 0) (.ref m :: as) n T I R (z_rel (some (.int a)) n T (fun I' R' => R' = R ∧ z_frF m I I'))) : Ct G y8 ws8 (d8, 0, 0) (.ref m :: as) n T I R (z_rel (some (.int a)) n T (fun I' R' => R' = R ∧ (I' m 3 = I m 3 ∧ I' m 5 = I m 5) ∧ ∀ q, q < m ∨ q = m + 1 ∨ q = m + 3 ∨ q = m + 4 → I' q = I q)) :=
  h.impR (fun I' R' z => ⟨z.1, ⟨congrFun (z.2 m (by omega)) 3, congrFun (z.2 m (by omega)) 5⟩, fun q hq => z.2 q (by omega)⟩)
theorem ag_refusal (hm : m = x + 595) (hL : LSt T x m I R) (a0 a1 : Int32) : Agr G x m n T I R yX7_refusal wsX7_refusal 3 yX8_refusal wsX8_refusal 3 [.int a0, .int a1] := by
  obtain ⟨hM, pc, y, h3, h5, hS⟩ := hL
  obtain ⟨nr, nd, np, st, hI, hst⟩ := St_inv hS
  have h4 := St_pc4 hS
  have h80 := St_y80 hS
  exact agC hm hM h3 h5 (rd7 hS (c_X7_refusal G x pc y _ _ _ hS a0 a1)) (fun I1 R1 hM1 e1 e4 e3 e5 => by
    have z := c_X8_refusal G (n := n) (T := T) (I := I1) (R := R1) m nr nd np st a0 a1 hM1 (by rw [e1]; exact hI)
    rw [e1] at z
    exact rd8 z)
theorem ag_roomOf (hm : m = x + 595) (hL : LSt T x m I R) (a0 a1 : Int32) : Agr G x m n T I R yX7_roomOf wsX7_roomOf 2 yX8_roomOf wsX8_roomOf 3 [.int a0, .int a1] := by
  obtain ⟨hM, pc, y, h3, h5, hS⟩ := hL
  obtain ⟨nr, nd, np, st, hI, hst⟩ := St_inv hS
  have h4 := St_pc4 hS
  have h80 := St_y80 hS
  exact agC hm hM h3 h5 (rd7 hS (c_X7_roomOf G x pc y _ _ _ hS a0 a1)) (fun I1 R1 hM1 e1 e4 e3 e5 => by
    have z := c_X8_roomOf G (n := n) (T := T) (I := I1) (R := R1) m nr nd np st a0 a1 hM1 (by rw [e1]; exact hI)
    rw [e1] at z
    exact rd8 z)
theorem ag_doorOf (hm : m = x + 595) (hL : LSt T x m I R) (a0 a1 : Int32) : Agr G x m n T I R yX7_doorOf wsX7_doorOf 2 yX8_doorOf wsX8_doorOf 2 [.int a0, .int a1] := by
  obtain ⟨hM, pc, y, h3, h5, hS⟩ := hL
  obtain ⟨nr, nd, np, st, hI, hst⟩ := St_inv hS
  have h4 := St_pc4 hS
  have h80 := St_y80 hS
  exact agC hm hM h3 h5 (rd7 hS (c_X7_doorOf G x pc y _ _ _ hS a0 a1)) (fun I1 R1 hM1 e1 e4 e3 e5 => by
    have z := c_X8_doorOf G (n := n) (T := T) (I := I1) (R := R1) m nr nd np st a0 a1 hM1 (by rw [e1]; exact hI)
    rw [e1] at z
    exact rd8 z)
theorem ag_count (hm : m = x + 595) (hL : LSt T x m I R) (a0 : Int32) : Agr G x m n T I R yX7_count wsX7_count 2 yX8_count wsX8_count 2 [.int a0] := by
  obtain ⟨hM, pc, y, h3, h5, hS⟩ := hL
  obtain ⟨nr, nd, np, st, hI, hst⟩ := St_inv hS
  have h4 := St_pc4 hS
  have h80 := St_y80 hS
  exact agC hm hM h3 h5 (rd7 hS (c_X7_count G x pc y _ _ _ hS a0)) (fun I1 R1 hM1 e1 e4 e3 e5 => by
    have z := c_X8_count G (n := n) (T := T) (I := I1) (R := R1) m nr nd np st a0 hM1 (by rw [e1]; exact hI)
    rw [e1, e3, e5] at z
    exact rd8 z)
theorem ag_plan (hm : m = x + 595) (hL : LSt T x m I R) (a0 a1 : Int32) : Agr G x m n T I R yX7_plan wsX7_plan 1 yX8_plan wsX8_plan 1 [.int a0, .int a1] := by
  obtain ⟨hM, pc, y, h3, h5, hS⟩ := hL
  obtain ⟨nr, nd, np, st, hI, hst⟩ := St_inv hS
  have h4 := St_pc4 hS
  have h80 := St_y80 hS
  exact agC hm hM h3 h5 (rd7 hS (c_X7_plan G x pc y _ _ _ hS a0 a1)) (fun I1 R1 hM1 e1 e4 e3 e5 => by
    have z := c_X8_plan G (n := n) (T := T) (I := I1) (R := R1) m nr nd np st a0 a1 hM1 (by rw [e1]; exact hI)
    rw [e1] at z
    exact rd8 z)
theorem ag_way (hm : m = x + 595) (hL : LSt T x m I R) (a0 a1 : Int32) : Agr G x m n T I R yX7_way wsX7_way 2 yX8_way wsX8_way 1 [.int a0, .int a1] := by
  obtain ⟨hM, pc, y, h3, h5, hS⟩ := hL
  obtain ⟨nr, nd, np, st, hI, hst⟩ := St_inv hS
  have h4 := St_pc4 hS
  have h80 := St_y80 hS
  exact agC hm hM h3 h5 (rd7 hS (c_X7_way G x pc y _ _ _ hS a0 a1)) (fun I1 R1 hM1 e1 e4 e3 e5 => by
    have z := c_X8_way G (n := n) (T := T) (I := I1) (R := R1) m nr nd np st a0 a1 hM1 (by rw [e1]; exact hI)
    rw [e1] at z
    exact fr8 z)
theorem ag_fell (hm : m = x + 595) (hL : LSt T x m I R) (a0 a1 : Int32) : Agr G x m n T I R yX7_fell wsX7_fell 2 yX8_fell wsX8_fell 1 [.int a0, .int a1] := by
  obtain ⟨hM, pc, y, h3, h5, hS⟩ := hL
  obtain ⟨nr, nd, np, st, hI, hst⟩ := St_inv hS
  have h4 := St_pc4 hS
  have h80 := St_y80 hS
  exact agC hm hM h3 h5 (rd7 hS (c_X7_fell G x pc y _ _ _ hS a0 a1)) (fun I1 R1 hM1 e1 e4 e3 e5 => by
    have z := c_X8_fell G (n := n) (T := T) (I := I1) (R := R1) m nr nd np st a0 a1 hM1 (by rw [e1]; exact hI)
    rw [e1] at z
    exact rd8 z)
theorem ag_tail (hm : m = x + 595) (hL : LSt T x m I R) (a0 : Int32) : Agr G x m n T I R yX7_tail wsX7_tail 6 yX8_tail wsX8_tail 7 [.int a0] := by
  obtain ⟨hM, pc, y, h3, h5, hS⟩ := hL
  obtain ⟨nr, nd, np, st, hI, hst⟩ := St_inv hS
  have h4 := St_pc4 hS
  have h80 := St_y80 hS
  exact agC hm hM h3 h5 (c_X7_tail G x pc y _ _ _ hS a0) (fun I1 R1 hM1 e1 e4 e3 e5 => by
    have z := sc8 (c_X8_tail G (n := n) (T := T) (I := I1) (R := R1) m nr nd np st a0 hM1 (by rw [e1]; exact hI) (by omega))
    rw [e1] at z
    exact z)
theorem ag_tailWith (hm : m = x + 595) (hL : LSt T x m I R) (a0 a1 a2 : Int32) : Agr G x m n T I R yX7_tailWith wsX7_tailWith 7 yX8_tailWith wsX8_tailWith 7 [.int a0, .int a1, .int a2] := by
  obtain ⟨hM, pc, y, h3, h5, hS⟩ := hL
  obtain ⟨nr, nd, np, st, hI, hst⟩ := St_inv hS
  have h4 := St_pc4 hS
  have h80 := St_y80 hS
  exact agC hm hM h3 h5 (c_X7_tailWith G x pc y _ _ _ hS a0 a1 a2) (fun I1 R1 hM1 e1 e4 e3 e5 => by
    have z := sc8 (c_X8_tailWith G (n := n) (T := T) (I := I1) (R := R1) m nr nd np st a0 a1 a2 hM1 (by rw [e1]; exact hI) (by omega))
    rw [e1] at z
    exact z)
theorem ag_bestDoor (hm : m = x + 595) (hL : LSt T x m I R) (a0 a1 : Int32) : Agr G x m n T I R yX7_bestDoor wsX7_bestDoor 7 yX8_bestDoor wsX8_bestDoor 7 [.int a0, .int a1] := by
  obtain ⟨hM, pc, y, h3, h5, hS⟩ := hL
  obtain ⟨nr, nd, np, st, hI, hst⟩ := St_inv hS
  have h4 := St_pc4 hS
  have h80 := St_y80 hS
  exact agC hm hM h3 h5 (c_X7_bestDoor G x pc y _ _ _ hS a0 a1) (fun I1 R1 hM1 e1 e4 e3 e5 => by
    have z := sc8 (c_X8_bestDoor G (n := n) (T := T) (I := I1) (R := R1) m nr nd np st a0 a1 hM1 (by rw [e1]; exact hI) (by omega))
    rw [e1] at z
    exact z)
theorem ag_rise (hm : m = x + 595) (hL : LSt T x m I R) (a0 : Int32) : Agr G x m n T I R yX7_rise wsX7_rise 5 yX8_rise wsX8_rise 5 [.int a0] := by
  obtain ⟨hM, pc, y, h3, h5, hS⟩ := hL
  obtain ⟨nr, nd, np, st, hI, hst⟩ := St_inv hS
  have h4 := St_pc4 hS
  have h80 := St_y80 hS
  exact agC hm hM h3 h5 (c_X7_rise G x pc y _ _ _ hS a0) (fun I1 R1 hM1 e1 e4 e3 e5 => by
    have z := sc8 (c_X8_rise G (n := n) (T := T) (I := I1) (R := R1) m nr nd np st a0 hM1 (by rw [e1]; exact hI) (by omega))
    rw [e1] at z
    exact z)
theorem ag_peak (hm : m = x + 595) (hL : LSt T x m I R) (a0 a1 : Int32) : Agr G x m n T I R yX7_peak wsX7_peak 5 yX8_peak wsX8_peak 5 [.int a0, .int a1] := by
  obtain ⟨hM, pc, y, h3, h5, hS⟩ := hL
  obtain ⟨nr, nd, np, st, hI, hst⟩ := St_inv hS
  have h4 := St_pc4 hS
  have h80 := St_y80 hS
  exact agC hm hM h3 h5 (c_X7_peak G x pc y _ _ _ hS a0 a1) (fun I1 R1 hM1 e1 e4 e3 e5 => by
    have z := sc8 (c_X8_peak G (n := n) (T := T) (I := I1) (R := R1) m nr nd np st a0 a1 hM1 (by rw [e1]; exact hI) (by omega))
    rw [e1] at z
    exact z)
theorem ag_quiet (hm : m = x + 595) (hL : LSt T x m I R) : Agr G x m n T I R yX7_quiet wsX7_quiet 5 yX8_quiet wsX8_quiet 5 [] := by
  obtain ⟨hM, pc, y, h3, h5, hS⟩ := hL
  obtain ⟨nr, nd, np, st, hI, hst⟩ := St_inv hS
  have h4 := St_pc4 hS
  have h80 := St_y80 hS
  exact agC hm hM h3 h5 (c_X7_quiet G x pc y _ _ _ hS) (fun I1 R1 hM1 e1 e4 e3 e5 => by
    have z := sc8 (c_X8_quiet G (n := n) (T := T) (I := I1) (R := R1) m nr nd np st hM1 (by rw [e1]; exact hI) (by omega))
    rw [e1] at z
    exact z)
theorem ag_undo (hm : m = x + 595) (hL : LSt T x m I R) : Agr G x m n T I R yX7_undo wsX7_undo 4 yX8_undo wsX8_undo 0 [] := by
  obtain ⟨hM, pc, y, h3, h5, hS⟩ := hL
  obtain ⟨nr, nd, np, st, hI, hst⟩ := St_inv hS
  have h4 := St_pc4 hS
  have h80 := St_y80 hS
  refine ⟨_, _, c_X7_undo G x pc y _ _ _ hS, fun I1 R1 z => ?_⟩
  obtain ⟨z1, z2⟩ := z
  have f : ∀ q, m ≤ q → I1 q = I q := fun q hq => (z2 q (by omega)).1
  refine (c_X8_undo G m pc (fun k => I (m + 3) (657 * (pc - 1) + k)) (z_Mod_R hM (z2 m (by omega)).2) ((congrFun (f m (Nat.le_refl _)) 3).trans h3) h4 (fun _ k _ => (congrFun (f (m + 3) (by omega)) _).symm)).impR (fun I2 R2 u => ?_)
  obtain ⟨rfl, u1, u2, u3⟩ := u
  refine LSt_mk hm hM z2 z1 (fun q hq => u3 q (by omega) (by omega)) ?_ (fun k c _ _ => congrFun ((u3 _ (by omega) (by omega)).trans (f _ (by omega))) _) ((u3 _ (by omega) (by omega)).trans (f _ (by omega))) (by rw [u2]; exact upd_s _ _ _) ?_
  · rw [u1, f (m + 1) (by omega)]
  · rw [u2]; exact (upd_n _ _ (by decide)).trans ((congrFun (f m (Nat.le_refl _)) 5).trans h5)
theorem ag_type (hm : m = x + 595) (hL : LSt T x m I R) (a0 : Int32) : Agr G x m n T I R yX7_type wsX7_type 1 yX8_type wsX8_type 1 [.int a0] := by
  obtain ⟨hM, pc, y, h3, h5, hS⟩ := hL
  obtain ⟨nr, nd, np, st, hI, hst⟩ := St_inv hS
  have h4 := St_pc4 hS
  have h80 := St_y80 hS
  refine ⟨_, _, c_X7_type G x pc y _ _ _ hS a0, fun I1 R1 z => ?_⟩
  obtain ⟨z1, z2⟩ := z
  have f : ∀ q, m ≤ q → I1 q = I q := fun q hq => (z2 q (by omega)).1
  have z := c_X8_type G (n := n) (T := T) (I := I1) (R := R1) m y a0 (z_Mod_R hM (z2 m (by omega)).2) ((congrFun (f m (Nat.le_refl _)) 5).trans h5) h80
  rw [f (m + 4) (by omega)] at z
  refine z.impR (fun I2 R2 u => ?_)
  obtain ⟨rfl, u⟩ := u
  revert z1 u
  generalize (sp_type (I (m + 4)) y a0).2 = o
  intro u z1
  cases o with
  | none =>
    have u : I2 = I1 := u
    subst u
    exact LSt_mk hm hM z2 z1 (fun _ _ => rfl) (f _ (by omega)) (fun k c _ _ => congrFun (f _ (by omega)) _) (f _ (by omega)) ((congrFun (f m (Nat.le_refl _)) 3).trans h3) ((congrFun (f m (Nat.le_refl _)) 5).trans h5)
  | some o =>
    obtain ⟨tx', y'⟩ := o
    obtain ⟨u1, u2, u3⟩ := u
    refine LSt_mk hm hM z2 z1 (fun q hq => u3 q (by omega) (by omega)) ((u3 _ (by omega) (by omega)).trans (f _ (by omega))) (fun k c _ _ => congrFun ((u3 _ (by omega) (by omega)).trans (f _ (by omega))) _) u1 ?_ (by rw [u2]; exact upd_s _ _ _)
    rw [u2]; exact (upd_n _ _ (by decide)).trans ((congrFun (f m (Nat.le_refl _)) 3).trans h3)
theorem ag_clearText (hm : m = x + 595) (hL : LSt T x m I R) : Agr G x m n T I R yX7_clearText wsX7_clearText 0 yX8_clearText wsX8_clearText 0 [] := by
  obtain ⟨hM, pc, y, h3, h5, hS⟩ := hL
  obtain ⟨nr, nd, np, st, hI, hst⟩ := St_inv hS
  have h4 := St_pc4 hS
  have h80 := St_y80 hS
  refine ⟨_, _, c_X7_clearText G x pc y _ _ _ hS, fun I1 R1 z => ?_⟩
  obtain ⟨z1, z2⟩ := z
  have f : ∀ q, m ≤ q → I1 q = I q := fun q hq => (z2 q (by omega)).1
  have z := c_X8_clearText G (n := n) (T := T) (I := I1) (R := R1) m (z_Mod_R hM (z2 m (by omega)).2)
  rw [(congrFun (f m (Nat.le_refl _)) 5).trans h5] at z
  refine z.impR (fun I2 R2 u => ?_)
  obtain ⟨rfl, u1, u2, u3⟩ := u
  refine LSt_mk hm hM z2 z1 (fun q hq => u3 q (by omega) (by omega)) ((u3 _ (by omega) (by omega)).trans (f _ (by omega))) (fun k c _ _ => congrFun ((u3 _ (by omega) (by omega)).trans (f _ (by omega))) _) (u1.trans (f _ (by omega))) ?_ (by rw [u2]; exact upd_s _ _ _)
  rw [u2]; exact (upd_n _ _ (by decide)).trans ((congrFun (f m (Nat.le_refl _)) 3).trans h3)
theorem ag_fault (hm : m = x + 595) (hL : LSt T x m I R) (a0 : Int32) : Agr G x m n T I R yX7_fault wsX7_fault 5 yX8_fault wsX8_fault 5 [.int a0] := by
  obtain ⟨hM, pc, y, h3, h5, hS⟩ := hL
  obtain ⟨nr, nd, np, st, hI, hst⟩ := St_inv hS
  have h4 := St_pc4 hS
  have h80 := St_y80 hS
  exact agA (o := none) hm hM h3 h5 h4 (c_X7_fault G x pc y _ _ _ hS a0) (fun I1 R1 hM1 e1 e4 e3 e5 => by
    have z := c_X8_fault G (n := n) (T := T) (I := I1) (R := R1) m y a0 hM1 e5 h80
    rw [e1, e4] at z
    exact z)
end AG
