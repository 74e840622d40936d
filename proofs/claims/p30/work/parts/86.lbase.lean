/-! THE LAW, its walk at one start: the rows of the symbolic machine, the start's own facts at hand -/
def z_L (p : Program) (e : Env) (s : State) (m : MethodId) (args : Array Value) (below : List Frame) (meth : Method) (c : Code) (G : zG) (M : zM) (P : zP) (Q : zQ) (n : Nat) (T : zTT) (I : zII) (R : zRR) (k w pc : Nat) (ls : List (Nat × Value)) (st : List Value) : Prop :=
  z_C G M p s m args meth c → ∀ (H : Heap) (locs : List Loc) (L : Array Slot), H.size = n → z_H G.2.1 G.2.2 T I R s H → va_S (z_F G.2.2) s.heap H locs → lv_has L M.2.2.1 ls → W p G.1 e (z_rm P) s m args below meth c H locs k w (MQ below (z_Qc G Q) args s P.2.1 P.2.2 (z_F G.2.2)) (F0 m pc L st)
section ZL
variable {p : Program} {e : Env} {s : State} {m : MethodId} {args : Array Value} {below : List Frame} {meth : Method} {c : Code} {G : zG} {M : zM} {P : zP} {Q : zQ} {n : Nat} {T : zTT} {I : zII} {R : zRR} {k w pc q : Nat} {ls ls' : List (Nat × Value)} {st : List Value}
theorem l_iconst {c0 : Int} {v : Int32} (hd : decode M.2.1 pc = .ok (.iconst c0, 1)) (hv : Int32.ofInt c0 = v) (hq : pc + 1 = q) (kk : z_L p e s m args below meth c G M P Q n T I R k w q ls (.int v :: st)) : z_L p e s m args below meth c G M P Q n T I R k w pc ls st := by
  subst hq
  intro Cx H locs L hn hH hS hL
  exact lv_iconst Cx.1 Cx.2.1 hd hv (kk Cx H locs L hn hH hS hL)
theorem l_bipush {c0 : Int} {v : Int32} (hd : decode M.2.1 pc = .ok (.bipush c0, 2)) (hv : (Int8.ofInt c0).toInt32 = v) (hq : pc + 2 = q) (kk : z_L p e s m args below meth c G M P Q n T I R k w q ls (.int v :: st)) : z_L p e s m args below meth c G M P Q n T I R k w pc ls st := by
  subst hq
  intro Cx H locs L hn hH hS hL
  exact lv_bipush Cx.1 Cx.2.1 hd hv (kk Cx H locs L hn hH hS hL)
theorem l_sipush {c0 : Int} {v : Int32} (hd : decode M.2.1 pc = .ok (.sipush c0, 3)) (hv : (Int16.ofInt c0).toInt32 = v) (hq : pc + 3 = q) (kk : z_L p e s m args below meth c G M P Q n T I R k w q ls (.int v :: st)) : z_L p e s m args below meth c G M P Q n T I R k w pc ls st := by
  subst hq
  intro Cx H locs L hn hH hS hL
  exact lv_sipush Cx.1 Cx.2.1 hd hv (kk Cx H locs L hn hH hS hL)
theorem l_iload_n {kf : Fin 4} {i : Nat} {x : Int32} (hd : decode M.2.1 pc = .ok (.iload_n kf, 1)) (hi : (kf : Nat) = i) (hg : zg ls i = some (.int x)) (hq : pc + 1 = q) (kk : z_L p e s m args below meth c G M P Q n T I R k w q ls (.int x :: st)) : z_L p e s m args below meth c G M P Q n T I R k w pc ls st := by
  subst hq
  intro Cx H locs L hn hH hS hL
  exact lv_iload_n Cx.1 Cx.2.1 hd hi (z_has_g hL hg) (kk Cx H locs L hn hH hS hL)
theorem l_iload {i : Nat} {x : Int32} (hd : decode M.2.1 pc = .ok (.iload i, 2)) (hg : zg ls i = some (.int x)) (hq : pc + 2 = q) (kk : z_L p e s m args below meth c G M P Q n T I R k w q ls (.int x :: st)) : z_L p e s m args below meth c G M P Q n T I R k w pc ls st := by
  subst hq
  intro Cx H locs L hn hH hS hL
  exact lv_iload Cx.1 Cx.2.1 hd (z_has_g hL hg) (kk Cx H locs L hn hH hS hL)
theorem l_aload_n {kf : Fin 4} {i : Nat} {x : Nat} (hd : decode M.2.1 pc = .ok (.aload_n kf, 1)) (hi : (kf : Nat) = i) (hg : zg ls i = some (.ref x)) (hq : pc + 1 = q) (kk : z_L p e s m args below meth c G M P Q n T I R k w q ls (.ref x :: st)) : z_L p e s m args below meth c G M P Q n T I R k w pc ls st := by
  subst hq
  intro Cx H locs L hn hH hS hL
  exact lv_aload_n Cx.1 Cx.2.1 hd hi (z_has_g hL hg) (kk Cx H locs L hn hH hS hL)
theorem l_aload {i : Nat} {x : Nat} (hd : decode M.2.1 pc = .ok (.aload i, 2)) (hg : zg ls i = some (.ref x)) (hq : pc + 2 = q) (kk : z_L p e s m args below meth c G M P Q n T I R k w q ls (.ref x :: st)) : z_L p e s m args below meth c G M P Q n T I R k w pc ls st := by
  subst hq
  intro Cx H locs L hn hH hS hL
  exact lv_aload Cx.1 Cx.2.1 hd (z_has_g hL hg) (kk Cx H locs L hn hH hS hL)
theorem l_istore_n {kf : Fin 4} {i : Nat} {x : Int32} (hd : decode M.2.1 pc = .ok (.istore_n kf, 1)) (hi : (kf : Nat) = i) (hn2 : i < M.2.2.1) (hq : pc + 1 = q) (kk : z_L p e s m args below meth c G M P Q n T I R k w q (zs ls i (.int x)) st) : z_L p e s m args below meth c G M P Q n T I R k w pc ls ((.int x) :: st) := by
  subst hq
  intro Cx H locs L hn hH hS hL
  exact lv_istore_n Cx.1 Cx.2.1 hd hi hL hn2 rfl (fun L' hL' => kk Cx H locs L' hn hH hS (z_has_in hL' zs_in))
theorem l_istore {i : Nat} {x : Int32} (hd : decode M.2.1 pc = .ok (.istore i, 2))  (hn2 : i < M.2.2.1) (hq : pc + 2 = q) (kk : z_L p e s m args below meth c G M P Q n T I R k w q (zs ls i (.int x)) st) : z_L p e s m args below meth c G M P Q n T I R k w pc ls ((.int x) :: st) := by
  subst hq
  intro Cx H locs L hn hH hS hL
  exact lv_istore Cx.1 Cx.2.1 hd  hL hn2 rfl (fun L' hL' => kk Cx H locs L' hn hH hS (z_has_in hL' zs_in))
theorem l_astore_n {kf : Fin 4} {i : Nat} {x : Nat} (hd : decode M.2.1 pc = .ok (.astore_n kf, 1)) (hi : (kf : Nat) = i) (hn2 : i < M.2.2.1) (hq : pc + 1 = q) (kk : z_L p e s m args below meth c G M P Q n T I R k w q (zs ls i (.ref x)) st) : z_L p e s m args below meth c G M P Q n T I R k w pc ls ((.ref x) :: st) := by
  subst hq
  intro Cx H locs L hn hH hS hL
  exact lv_astore_n Cx.1 Cx.2.1 hd hi hL hn2 rfl (fun L' hL' => kk Cx H locs L' hn hH hS (z_has_in hL' zs_in))
theorem l_astore {i : Nat} {x : Nat} (hd : decode M.2.1 pc = .ok (.astore i, 2))  (hn2 : i < M.2.2.1) (hq : pc + 2 = q) (kk : z_L p e s m args below meth c G M P Q n T I R k w q (zs ls i (.ref x)) st) : z_L p e s m args below meth c G M P Q n T I R k w pc ls ((.ref x) :: st) := by
  subst hq
  intro Cx H locs L hn hH hS hL
  exact lv_astore Cx.1 Cx.2.1 hd  hL hn2 rfl (fun L' hL' => kk Cx H locs L' hn hH hS (z_has_in hL' zs_in))
theorem l_iinc {i : Nat} {c0 : Int} {x v : Int32} (hd : decode M.2.1 pc = .ok (.iinc i c0, 3)) (hg : zg ls i = some (.int x)) (hv : x + Int32.ofInt c0 = v) (hn2 : i < M.2.2.1) (hq : pc + 3 = q) (kk : z_L p e s m args below meth c G M P Q n T I R k w q (zs ls i (.int v)) st) : z_L p e s m args below meth c G M P Q n T I R k w pc ls st := by
  subst hq
  intro Cx H locs L hn hH hS hL
  obtain ⟨j, hj⟩ := z_pl hg
  exact lv_iinc Cx.1 Cx.2.1 hd hL hj hv hn2 rfl (fun L' hL' => kk Cx H locs L' hn hH hS (z_has_in hL' zs_in))
theorem l_iadd {x y : Int32} (hd : decode M.2.1 pc = .ok (.iadd, 1))  (hq : pc + 1 = q) (kk : z_L p e s m args below meth c G M P Q n T I R k w q ls (.int (x + y) :: st)) : z_L p e s m args below meth c G M P Q n T I R k w pc ls (.int y :: .int x :: st) := by
  subst hq
  intro Cx H locs L hn hH hS hL
  exact lv_iadd Cx.1 Cx.2.1 hd  (kk Cx H locs L hn hH hS hL)
theorem l_imul {x y : Int32} (hd : decode M.2.1 pc = .ok (.imul, 1))  (hq : pc + 1 = q) (kk : z_L p e s m args below meth c G M P Q n T I R k w q ls (.int (x * y) :: st)) : z_L p e s m args below meth c G M P Q n T I R k w pc ls (.int y :: .int x :: st) := by
  subst hq
  intro Cx H locs L hn hH hS hL
  exact lv_imul Cx.1 Cx.2.1 hd  (kk Cx H locs L hn hH hS hL)
theorem l_iand {x y : Int32} (hd : decode M.2.1 pc = .ok (.iand, 1))  (hq : pc + 1 = q) (kk : z_L p e s m args below meth c G M P Q n T I R k w q ls (.int (x &&& y) :: st)) : z_L p e s m args below meth c G M P Q n T I R k w pc ls (.int y :: .int x :: st) := by
  subst hq
  intro Cx H locs L hn hH hS hL
  exact lv_iand Cx.1 Cx.2.1 hd  (kk Cx H locs L hn hH hS hL)
theorem l_ixor {x y : Int32} (hd : decode M.2.1 pc = .ok (.ixor, 1))  (hq : pc + 1 = q) (kk : z_L p e s m args below meth c G M P Q n T I R k w q ls (.int (x ^^^ y) :: st)) : z_L p e s m args below meth c G M P Q n T I R k w pc ls (.int y :: .int x :: st) := by
  subst hq
  intro Cx H locs L hn hH hS hL
  exact lv_ixor Cx.1 Cx.2.1 hd  (kk Cx H locs L hn hH hS hL)
theorem l_iaddE {x y v : Int32} (hd : decode M.2.1 pc = .ok (.iadd, 1)) (hv : x + y = v) (hq : pc + 1 = q) (kk : z_L p e s m args below meth c G M P Q n T I R k w q ls (.int v :: st)) : z_L p e s m args below meth c G M P Q n T I R k w pc ls (.int y :: .int x :: st) := by
  subst hq
  subst hv
  intro Cx H locs L hn hH hS hL
  exact lv_iadd Cx.1 Cx.2.1 hd  (kk Cx H locs L hn hH hS hL)
theorem l_imulE {x y v : Int32} (hd : decode M.2.1 pc = .ok (.imul, 1)) (hv : x * y = v) (hq : pc + 1 = q) (kk : z_L p e s m args below meth c G M P Q n T I R k w q ls (.int v :: st)) : z_L p e s m args below meth c G M P Q n T I R k w pc ls (.int y :: .int x :: st) := by
  subst hq
  subst hv
  intro Cx H locs L hn hH hS hL
  exact lv_imul Cx.1 Cx.2.1 hd  (kk Cx H locs L hn hH hS hL)
theorem l_idivE {x y v : Int32} (hd : decode M.2.1 pc = .ok (.idiv, 1)) (hne : ¬ y = 0) (hv : x / y = v) (hq : pc + 1 = q) (kk : z_L p e s m args below meth c G M P Q n T I R k w q ls (.int v :: st)) : z_L p e s m args below meth c G M P Q n T I R k w pc ls (.int y :: .int x :: st) := by
  subst hq
  subst hv
  intro Cx H locs L hn hH hS hL
  exact lv_idiv Cx.1 Cx.2.1 hd hne (kk Cx H locs L hn hH hS hL)
theorem l_dup {va : Value} (hd : decode M.2.1 pc = .ok (.dup, 1)) (hva : va.category = 1) (hq : pc + 1 = q) (kk : z_L p e s m args below meth c G M P Q n T I R k w q ls (va :: va :: st)) : z_L p e s m args below meth c G M P Q n T I R k w pc ls (va :: st) := by
  subst hq
  intro Cx H locs L hn hH hS hL
  exact lv_dup Cx.1 Cx.2.1 hd hva (kk Cx H locs L hn hH hS hL)
theorem l_goto {off : Int} (hd : decode M.2.1 pc = .ok (.goto off, 3)) (ht : (pc : Int) + off = (q : Int)) (kk : z_L p e s m args below meth c G M P Q n T I R k w q ls st) : z_L p e s m args below meth c G M P Q n T I R k w pc ls st := by
  intro Cx H locs L hn hH hS hL
  exact lv_goto Cx.1 Cx.2.1 hd ht (kk Cx H locs L hn hH hS hL)
theorem l_if_eq {x : Int32} {off : Int} {tgt : Nat} (hd : decode M.2.1 pc = .ok (.ifCond .eq off, 3)) (ht : (pc : Int) + off = (tgt : Int)) (hq : pc + 3 = q) (kt : x = 0 → z_L p e s m args below meth c G M P Q n T I R k w tgt ls st) (kf : ¬ x = 0 → z_L p e s m args below meth c G M P Q n T I R k w q ls st) : z_L p e s m args below meth c G M P Q n T I R k w pc ls (.int x :: st) := by
  subst hq
  intro Cx H locs L hn hH hS hL
  exact lv_if_eq Cx.1 Cx.2.1 hd ht (fun h => kt h Cx H locs L hn hH hS hL) (fun h => kf h Cx H locs L hn hH hS hL)
theorem l_icmp_ne {x y : Int32} {off : Int} {tgt : Nat} (hd : decode M.2.1 pc = .ok (.if_icmp .ne off, 3)) (ht : (pc : Int) + off = (tgt : Int)) (hq : pc + 3 = q) (kt : ¬ x = y → z_L p e s m args below meth c G M P Q n T I R k w tgt ls st) (kf : x = y → z_L p e s m args below meth c G M P Q n T I R k w q ls st) : z_L p e s m args below meth c G M P Q n T I R k w pc ls (.int y :: .int x :: st) := by
  subst hq
  intro Cx H locs L hn hH hS hL
  exact lv_icmp_ne Cx.1 Cx.2.1 hd ht (fun h => kt h Cx H locs L hn hH hS hL) (fun h => kf h Cx H locs L hn hH hS hL)
theorem l_icmp_ge {x y : Int32} {off : Int} {tgt : Nat} (hd : decode M.2.1 pc = .ok (.if_icmp .ge off, 3)) (ht : (pc : Int) + off = (tgt : Int)) (hq : pc + 3 = q) (kt : y ≤ x → z_L p e s m args below meth c G M P Q n T I R k w tgt ls st) (kf : ¬ y ≤ x → z_L p e s m args below meth c G M P Q n T I R k w q ls st) : z_L p e s m args below meth c G M P Q n T I R k w pc ls (.int y :: .int x :: st) := by
  subst hq
  intro Cx H locs L hn hH hS hL
  exact lv_icmp_ge Cx.1 Cx.2.1 hd ht (fun h => kt h Cx H locs L hn hH hS hL) (fun h => kf h Cx H locs L hn hH hS hL)
theorem l_icmpn_ge {x y : Int32} {a b : Nat} (hxa : x = nI a) (hyb : y = nI b) (ha : a < 2 ^ 31) (hb : b < 2 ^ 31) {off : Int} {tgt : Nat} (hd : decode M.2.1 pc = .ok (.if_icmp .ge off, 3)) (ht : (pc : Int) + off = (tgt : Int)) (hq : pc + 3 = q) (kt : b ≤ a → z_L p e s m args below meth c G M P Q n T I R k w tgt ls st) (kf : a < b → z_L p e s m args below meth c G M P Q n T I R k w q ls st) : z_L p e s m args below meth c G M P Q n T I R k w pc ls (.int y :: .int x :: st) := by
  subst hxa
  subst hyb
  exact l_icmp_ge hd ht hq (fun h => kt ((nI_leI hb ha).mp h)) (fun h => kf ((Nat.not_le.mp fun z => h ((nI_leI hb ha).mpr z))))
theorem l_ldc {index i : Nat} {v : Int32} (h1 : M.2.2.2.1[i]? = some (Cond.constant M.1 index v)) (hd : decode M.2.1 pc = .ok (.ldc index, 2)) (hq : pc + 2 = q) (kk : z_L p e s m args below meth c G M P Q n T I R k w q ls (.int v :: st)) : z_L p e s m args below meth c G M P Q n T I R k w pc ls st := by
  subst hq
  intro Cx H locs L hn hH hS hL
  exact lv_ldc Cx.1 Cx.2.1 Cx.2.2.2.1 (Cx.2.2.2.2.1 _ (List.mem_of_getElem? h1)) hd (kk Cx H locs L hn hH hS hL)
theorem l_pick (ks : List Nat) (h : lv_pick ls ks = ls') (kk : z_L p e s m args below meth c G M P Q n T I R k w pc ls' st) : z_L p e s m args below meth c G M P Q n T I R k w pc ls st := by
  intro Cx H locs L hn hH hS hL
  exact kk Cx H locs L hn hH hS (lv_sub hL ks h)
theorem l_iast {a len : Nat} {x v : Int32} (j : Nat) (hT : T a = some (.inr (.int, len))) (hj : x = nI j) (hlt : j < len) (hln : len < 2 ^ 31)  (hd : decode M.2.1 pc = .ok (.iastore, 1)) (hq : pc + 1 = q) (kk : z_L p e s m args below meth c G M P Q n T (zw I a j v) R k w q ls st) : z_L p e s m args below meth c G M P Q n T I R k w pc ls (.int v :: .int x :: .ref a :: st) := by
  subst hq
  subst hj
  intro Cx H locs L hn hH hS hL
  obtain ⟨hx, hb, hml, hown, hts, hr, hlk, hin, hK, hz⟩ := id Cx
  obtain ⟨hna, cA, q1, q2, q3⟩ := hH a _ hT
  have hvin : vp_in (nI j) len := nI_in hlt hln
  have hcl : (nI j).toNatClampNeg = j := nI_clamp (Nat.lt_trans hlt hln)
  refine W.iast hx hb q1 (q2 len _) (fun q => by cases q) (by rw [arrV_size]; exact hvin) rfl rfl hd fun H1 e1 e2 e3 => ?_
  rw [hcl] at e1 ⊢
  rw [arrV_store] at e1
  refine kk Cx H1 _ L (e2.trans hn) (z_H_upd hH hT (fun a' h => zw_row I v h) (fun _ _ => rfl) ?_ e3) (hS.put e2 e3 hna) hL
  refine ⟨cA, ?_, q2, q3⟩
  rw [e1]
  refine congrArg (fun z => some (arrV cA len z)) ?_
  funext y
  by_cases hy : y = j
  · subst hy
    simp [updV, z_val, z_ref, zw_s]
  · simp [updV, z_val, z_ref, hy, zw_k]
theorem l_iret {v : Int32} (hr : M.2.2.2.2.1 = some .int) (hd : decode M.2.1 pc = .ok (.ireturn, 1)) (hkc : k ≤ P.2.1) (hws : w ≤ P.2.2) (hQ : Q (some (.int v)) n T I R) : z_L p e s m args below meth c G M P Q n T I R k w pc ls [.int v] := by
  intro Cx H locs L hn hH hS hL
  refine W.widen (k := P.2.1) (n := P.2.2) hkc hws ?_
  exact W.iret Cx.1 Cx.2.1 (Cx.2.2.2.2.2.1.trans hr) (fun t ht hW => ⟨⟨(some (.int v)), n, T, I, R, rfl, by rw [ht]; exact hn, by rw [ht]; exact hH.moved hW.alike, hQ⟩, hS.F ht⟩) hS.2.2 hd Cx.2.2.2.2.2.2.1
theorem l_zret {v : Int32} {ty : FieldType} (hr : M.2.2.2.2.1 = some ty) (hnr : narrow ty (.int v) = .int v) (hd : decode M.2.1 pc = .ok (.ireturn, 1)) (hkc : k ≤ P.2.1) (hws : w ≤ P.2.2) (hQ : Q (some (.int v)) n T I R) : z_L p e s m args below meth c G M P Q n T I R k w pc ls [.int v] := by
  intro Cx H locs L hn hH hS hL
  refine W.widen (k := P.2.1) (n := P.2.2) hkc hws ?_
  exact W.zret Cx.1 Cx.2.1 (Cx.2.2.2.2.2.1.trans hr) hnr (fun t ht hW => ⟨⟨(some (.int v)), n, T, I, R, rfl, by rw [ht]; exact hn, by rw [ht]; exact hH.moved hW.alike, hQ⟩, hS.F ht⟩) hS.2.2 hd Cx.2.2.2.2.2.2.1
theorem l_after {H : Heap} {locs : List Loc} {L : Array Slot} {mc ms : Nat} {st0 : List Value} {Qc : zQ} {a : Array Value} (Cx : z_C G M p s m args meth c) (hn : H.size = n) (hS : va_S (z_F G.2.2) s.heap H locs) (hL : lv_has L M.2.2.1 ls)
    (hr : va_Run p G.1 e (z_rm P) s m args below meth c H locs k w mc ms (F0 m pc L st0) st (z_Qc G Qc a) (z_F G.2.2))
    (kk : ∀ (r : Option Value) (n' : Nat) (T' : zTT) (I' : zII) (R' : zRR), Qc r n' T' I' R' → z_L p e s m args below meth c G M P Q n' T' I' R' (k + mc) (w + ms) (pc + 3) ls (r.toList ++ st)) :
    W p G.1 e (z_rm P) s m args below meth c H locs k w (MQ below (z_Qc G Q) args s P.2.1 P.2.2 (z_F G.2.2)) (F0 m pc L st0) := by
  intro T0 hT0 X0
  obtain ⟨v, st₀, t, T', Lc, h0, X', hL', e1, e2, ⟨⟨r, n', T1, I1, R1, hv, hsz, hHt, hq⟩, hz, hk⟩, stp⟩ := hr T0 hT0 X0
  cases hv
  rw [h0] at hz hk
  have hal : t.vm.Alike s.vm := by rw [← e2]; exact X'.warmed.alike.symm
  obtain ⟨t2, a1, b1⟩ := kk v n' T1 I1 R1 hq Cx T'.heap (locs ++ Lc) L (by rw [e1]; exact hsz) (by rw [e1]; exact hHt.moved hal)
    ⟨Nat.le_trans hS.1 (by rw [e1]; exact hz), fun q h1 h2 => by rw [e1, hk q (Nat.lt_of_lt_of_le h1 hS.1) h2]; exact hS.2.1 q h1 h2, fun q hq => by
      rcases List.mem_append.mp hq with h | h
      · exact hS.2.2 q h
      · exact hL' q h⟩ hL T' rfl X'
  exact ⟨t2, stp t2 a1, b1⟩
theorem l_invV' {y : MethodName} {ws ws' : List Cond} {P' : zP} {As : List Value} {Qc : zQ} {bytes : ByteArray} {maxL na index : Nat} {ret : Option FieldType} {stk : List Value} {b ci : Nat} {C : String} {TT : u_T} {N : Nat} (hc : Ct G y ws P' (.ref b :: As) n T I R Qc) (hT : T b = some (.inl ci)) (hcl : vwCl[ci]? = some (C, TT, N)) (hG : GoodIn M.2.2.2.1 (wsV M.1 index C y ws)) (hw : ws = Cond.code y bytes maxL ret :: ws')
    (hy : y.cls = C ∧ y.cls ≠ "java/lang/invoke/MethodHandle" ∧ y.cls ≠ "java/lang/invoke/VarHandle" ∧ (parseMethodDescriptor y.desc).map (fun d => d.parameters.length) = some na) (hfr : Nat.ble (P'.1 + 1) P.1 = true) (hlo : Nat.ble (8 + (maxL + 11) + 36 * P'.1) (36 * P.1) = true) (hna : As.length = na) (hst : stk = As.reverse ++ .ref b :: st) (hW : (st.map fun v => v.category).sum ≤ 8) (hcap : k + P'.2.1 ≤ P.2.1 ∧ w + P'.2.2 ≤ P.2.2) (hd : decode M.2.1 pc = .ok (.invokevirtual index, 3)) (hq : pc + 3 = q)
    (kk : ∀ (r : Option Value) (n' : Nat) (T' : zTT) (I' : zII) (R' : zRR), Qc r n' T' I' R' → z_L p e s m args below meth c G M P Q n' T' I' R' (k + P'.2.1) (w + P'.2.2) q ls (r.toList ++ st)) : z_L p e s m args below meth c G M P Q n T I R k w pc ls stk := by
  subst hq
  subst hst
  intro Cx H locs L hn hH hS hL
  obtain ⟨hx, hb, hml, hown, hts, hr, hlk, hin, hK, hz⟩ := id Cx
  obtain ⟨hnb, r', hr', cellV, g1, g2, g3, -⟩ := hH b _ hT
  refine l_after Cx hn hS hL (va_runV (As := As) ⟨hx, hb, rfl, hown, hts⟩ hc (cwV na hts hG hw rfl rfl hy ⟨Nat.le_of_ble_eq_true hfr, Nat.le_of_ble_eq_true hlo⟩) ⟨z_blind, ⟨cellV, g1, by rw [g3]; rfl, by rw [g2]; exact (hK.1.1 ci _ hcl).2.1⟩, fun U hU hWm => ⟨rfl, z_pre_of Cx hn hH hS U hU hWm⟩⟩ rfl hna (hL.1.trans hml.symm) rfl (lv_room hW) hd hcap) kk
theorem l_invS' {y : MethodName} {ws ws' : List Cond} {P' : zP} {As : List Value} {Qc : zQ} {bytes : ByteArray} {maxL na index : Nat} {ret : Option FieldType} {stk : List Value} (hc : Ct G y ws P' As n T I R Qc) (hG : GoodIn M.2.2.2.1 (va_wsS M.1 index y ws)) (hw : ws = Cond.code y bytes maxL ret :: ws')
    (hy : y.cls ≠ "java/lang/invoke/MethodHandle" ∧ y.cls ≠ "java/lang/invoke/VarHandle" ∧ (parseMethodDescriptor y.desc).map (fun d => d.parameters.length) = some na) (hfr : Nat.ble (P'.1 + 1) P.1 = true) (hlo : Nat.ble (8 + (maxL + 11) + 36 * P'.1) (36 * P.1) = true) (hna : As.length = na) (hst : stk = As.reverse ++ st) (hW : (st.map fun v => v.category).sum ≤ 8) (hcap : k + P'.2.1 ≤ P.2.1 ∧ w + P'.2.2 ≤ P.2.2) (hd : decode M.2.1 pc = .ok (.invokestatic index, 3)) (hq : pc + 3 = q)
    (kk : ∀ (r : Option Value) (n' : Nat) (T' : zTT) (I' : zII) (R' : zRR), Qc r n' T' I' R' → z_L p e s m args below meth c G M P Q n' T' I' R' (k + P'.2.1) (w + P'.2.2) q ls (r.toList ++ st)) : z_L p e s m args below meth c G M P Q n T I R k w pc ls stk := by
  subst hq
  subst hst
  intro Cx H locs L hn hH hS hL
  obtain ⟨hx, hb, hml, hown, hts, hr, hlk, hin, hK, hz⟩ := id Cx
  refine l_after Cx hn hS hL (va_runS (As := As) ⟨hx, hb, rfl, hown, hts⟩ hc (va_cwS na hts hG hw rfl rfl hy ⟨Nat.le_of_ble_eq_true hfr, Nat.le_of_ble_eq_true hlo⟩) ⟨z_blind, fun U hU hWm => ⟨rfl, z_pre_of Cx hn hH hS U hU hWm⟩⟩ rfl hna (hL.1.trans hml.symm) rfl (lv_room hW) hd hcap) kk
theorem l_invI' {y : MethodName} {ws ws' : List Cond} {P' : zP} {As : List Value} {Qc : zQ} {bytes : ByteArray} {maxL na index : Nat} {stk : List Value} {b i j l : Nat} (hc : Ct G y ws P' (.ref b :: As) n T I R Qc) (hG : GoodIn M.2.2.2.1 ws) (hw : ws = Cond.code y bytes maxL none :: ws') (h1 : M.2.2.2.1[i]? = some (.methodLink M.1 index y)) (h2 : M.2.2.2.1[j]? = some (.instanceMethod y)) (h3 : M.2.2.2.1[l]? = some (.initialized y.cls))
    (hy : y.name = "<init>" ∧ y.cls ≠ "java/lang/invoke/MethodHandle" ∧ y.cls ≠ "java/lang/invoke/VarHandle" ∧ (parseMethodDescriptor y.desc).map (fun d => d.parameters.length) = some na) (hfr : Nat.ble (P'.1 + 1) P.1 = true) (hlo : Nat.ble (8 + (maxL + 11) + 36 * P'.1) (36 * P.1) = true) (hna : As.length = na) (hst : stk = As.reverse ++ .ref b :: st) (hW : (st.map fun v => v.category).sum ≤ 8) (hcap : k + P'.2.1 ≤ P.2.1 ∧ w + P'.2.2 ≤ P.2.2) (hd : decode M.2.1 pc = .ok (.invokespecial index, 3)) (hq : pc + 3 = q)
    (kk : ∀ (r : Option Value) (n' : Nat) (T' : zTT) (I' : zII) (R' : zRR), Qc r n' T' I' R' → z_L p e s m args below meth c G M P Q n' T' I' R' (k + P'.2.1) (w + P'.2.2) q ls (r.toList ++ st)) : z_L p e s m args below meth c G M P Q n T I R k w pc ls stk := by
  subst hq
  subst hst
  intro Cx H locs L hn hH hS hL
  obtain ⟨hx, hb, hml, hown, hts, hr, hlk, hin, hK, hz⟩ := id Cx
  refine l_after Cx hn hS hL (va_runI (As := As) ⟨hx, hb, rfl, hown, hts⟩ hc (cwI na hts hG hw rfl rfl (hts _ (List.mem_of_getElem? h3)) (hts _ (List.mem_of_getElem? h1)) (hts _ (List.mem_of_getElem? h2)) hy.1 hy.2 ⟨Nat.le_of_ble_eq_true hfr, Nat.le_of_ble_eq_true hlo⟩) ⟨z_blind, fun U hU hWm => ⟨rfl, z_pre_of Cx hn hH hS U hU hWm⟩⟩ rfl hna (hL.1.trans hml.symm) rfl (lv_room hW) hd hcap) kk
theorem l_invV {y : MethodName} {ws ws' : List Cond} {As : List Value} {Qc : zQ} {bytes : ByteArray} {maxL na index : Nat} {ret : Option FieldType} {stk : List Value} {d' b ci : Nat} {C : String} {TT : u_T} {N : Nat} (hc : Ct G y ws (d', 0, 0) (.ref b :: As) n T I R Qc) (hT : T b = some (.inl ci)) (hcl : vwCl[ci]? = some (C, TT, N)) (hG : GoodIn M.2.2.2.1 (wsV M.1 index C y ws)) (hw : ws = Cond.code y bytes maxL ret :: ws')
    (hy : y.cls = C ∧ y.cls ≠ "java/lang/invoke/MethodHandle" ∧ y.cls ≠ "java/lang/invoke/VarHandle" ∧ (parseMethodDescriptor y.desc).map (fun d => d.parameters.length) = some na) (hfr : Nat.ble (d' + 1) P.1 = true) (hlo : Nat.ble (8 + (maxL + 11) + 36 * d') (36 * P.1) = true) (hna : As.length = na) (hst : stk = As.reverse ++ .ref b :: st) (hW : (st.map fun v => v.category).sum ≤ 8) (hcap : k ≤ P.2.1 ∧ w ≤ P.2.2) (hd : decode M.2.1 pc = .ok (.invokevirtual index, 3)) (hq : pc + 3 = q)
    (kk : ∀ (r : Option Value) (n' : Nat) (T' : zTT) (I' : zII) (R' : zRR), Qc r n' T' I' R' → z_L p e s m args below meth c G M P Q n' T' I' R' k w q ls (r.toList ++ st)) : z_L p e s m args below meth c G M P Q n T I R k w pc ls stk := l_invV' hc hT hcl hG hw hy hfr hlo hna hst hW hcap hd hq kk
theorem l_invS {y : MethodName} {ws ws' : List Cond} {As : List Value} {Qc : zQ} {bytes : ByteArray} {maxL na index : Nat} {ret : Option FieldType} {stk : List Value} {d' : Nat} (hc : Ct G y ws (d', 0, 0) As n T I R Qc) (hG : GoodIn M.2.2.2.1 (va_wsS M.1 index y ws)) (hw : ws = Cond.code y bytes maxL ret :: ws')
    (hy : y.cls ≠ "java/lang/invoke/MethodHandle" ∧ y.cls ≠ "java/lang/invoke/VarHandle" ∧ (parseMethodDescriptor y.desc).map (fun d => d.parameters.length) = some na) (hfr : Nat.ble (d' + 1) P.1 = true) (hlo : Nat.ble (8 + (maxL + 11) + 36 * d') (36 * P.1) = true) (hna : As.length = na) (hst : stk = As.reverse ++ st) (hW : (st.map fun v => v.category).sum ≤ 8) (hcap : k ≤ P.2.1 ∧ w ≤ P.2.2) (hd : decode M.2.1 pc = .ok (.invokestatic index, 3)) (hq : pc + 3 = q)
    (kk : ∀ (r : Option Value) (n' : Nat) (T' : zTT) (I' : zII) (R' : zRR), Qc r n' T' I' R' → z_L p e s m args below meth c G M P Q n' T' I' R' k w q ls (r.toList ++ st)) : z_L p e s m args below meth c G M P Q n T I R k w pc ls stk := l_invS' hc hG hw hy hfr hlo hna hst hW hcap hd hq kk
theorem l_rv {v : Value} {n2 : Nat} {T2 : zTT} {I2 : zII} {R2 : zRR} (h : z_L p e s m args below meth c G M P Q n2 T2 I2 R2 k w q ls (v :: st)) : ∀ (r : Option Value) (n' : Nat) (T' : zTT) (I' : zII) (R' : zRR), z_ret (some v) n2 T2 I2 R2 r n' T' I' R' → z_L p e s m args below meth c G M P Q n' T' I' R' k w q ls (r.toList ++ st) := by
  rintro _ _ _ _ _ ⟨rfl, rfl, rfl, rfl, rfl⟩
  exact h
theorem l_rn {n2 : Nat} {T2 : zTT} {I2 : zII} {R2 : zRR} (h : z_L p e s m args below meth c G M P Q n2 T2 I2 R2 k w q ls st) : ∀ (r : Option Value) (n' : Nat) (T' : zTT) (I' : zII) (R' : zRR), z_ret none n2 T2 I2 R2 r n' T' I' R' → z_L p e s m args below meth c G M P Q n' T' I' R' k w q ls (r.toList ++ st) := by
  rintro _ _ _ _ _ ⟨rfl, rfl, rfl, rfl, rfl⟩
  exact h
theorem l_rvR {v : Value} {n2 : Nat} {T2 : zTT} {Z : zII → zRR → Prop} (h : ∀ (I2 : zII) (R2 : zRR), Z I2 R2 → z_L p e s m args below meth c G M P Q n2 T2 I2 R2 k w q ls (v :: st)) : ∀ (r : Option Value) (n' : Nat) (T' : zTT) (I' : zII) (R' : zRR), z_rel (some v) n2 T2 Z r n' T' I' R' → z_L p e s m args below meth c G M P Q n' T' I' R' k w q ls (r.toList ++ st) := by
  rintro _ _ _ I' R' ⟨rfl, rfl, rfl, hZ⟩
  exact h I' R' hZ
theorem l_rnR {n2 : Nat} {T2 : zTT} {Z : zII → zRR → Prop} (h : ∀ (I2 : zII) (R2 : zRR), Z I2 R2 → z_L p e s m args below meth c G M P Q n2 T2 I2 R2 k w q ls st) : ∀ (r : Option Value) (n' : Nat) (T' : zTT) (I' : zII) (R' : zRR), z_rel none n2 T2 Z r n' T' I' R' → z_L p e s m args below meth c G M P Q n' T' I' R' k w q ls (r.toList ++ st) := by
  rintro _ _ _ I' R' ⟨rfl, rfl, rfl, hZ⟩
  exact h I' R' hZ
theorem l_new {C : String} {TT : u_T} {N index : Nat} (ci i j l : Nat) (ty : Nat → FieldType) (hty : ∀ k, k < N → parseFieldDescriptor (TT k).2.2.1 = some (ty k)) (hin : ∀ w ∈ u_ws C TT N, w ∈ M.2.2.2.1) (hcl : vwCl[ci]? = some (C, TT, N)) (h1 : M.2.2.2.1[i]? = some (.classLink M.1 index C)) (h2 : M.2.2.2.1[j]? = some (.instantiable C N)) (h3 : M.2.2.2.1[l]? = some (.initialized C)) (hdef : ∀ x, x < N → defaultValue (ty x) = z_val (.inl ci) (fun _ => 0) (fun _ => none) x) (hcap : k + 1 ≤ P.2.1 ∧ w + N ≤ P.2.2) (hd : decode M.2.1 pc = .ok (.new index, 3)) (hq : pc + 3 = q)
    (kk : z_L p e s m args below meth c G M P Q (n + 1) (zN T n (some (.inl ci))) (zN I n (fun _ => 0)) (zN R n (fun _ => none)) (k + 1) (w + N) q ls (.ref n :: st)) : z_L p e s m args below meth c G M P Q n T I R k w pc ls st := by
  subst hq
  intro Cx H locs L hn hH hS hL
  obtain ⟨hx, hb, hml, hown, hts, hr, hlk, hinit, hK, hz⟩ := id Cx
  have hKn := hK.1.1 ci _ hcl
  refine W.newcK hx hb hown (hts _ (List.mem_of_getElem? h1)) (hts _ (List.mem_of_getElem? h2)) (hts _ (List.mem_of_getElem? h3)) rfl hd hcap.1 hcap.2 hKn.2.1 hn fun H1 kC hkC e1 z1 o1 => ?_
  refine kk Cx H1 _ L z1 (z_H_new hH hn (by rw [← hn]; exact Nat.le_trans hz hS.1) (fun a' h => zN_n I _ h) (fun a' h => zN_n R _ h) ?_ o1) ⟨Nat.le_trans hS.1 (by rw [z1, ← hn]; omega), fun x a1 a2 => (o1 x (by rw [← hn]; exact Nat.lt_of_lt_of_le a1 hS.1)).trans (hS.2.1 x a1 a2), hS.2.2⟩ hL
  rw [zN_s, zN_s]
  exact ⟨_, hcl, (u_born ty hts hin hKn hkC e1 hty).to hdef⟩
theorem l_newa {atype : ArrayType} {ty : FieldType} {x : Int32} (len i : Nat) (h1 : M.2.2.2.1[i]? = some (.arrayClass (newarray.typeOf atype))) (hty : newarray.typeOf atype = ty) (hra : ∀ (U : State) (cA : ClassId), U.vm.findClass ("[" ++ ty.toString) = some cA → va_RA U cA ty) (hx : x = nI len) (hlen : len < 65536) (hdef : ∀ y, defaultValue ty = z_val (.inr (ty, len)) (fun _ => 0) (fun _ => none) y) (hbytes : len * componentBytes ty ≤ 536870912) (hcap : k + 1 ≤ P.2.1 ∧ w + len ≤ P.2.2) (hd : decode M.2.1 pc = .ok (.newarray atype, 2)) (hq : pc + 2 = q)
    (kk : z_L p e s m args below meth c G M P Q (n + 1) (zN T n (some (.inr (ty, len)))) (zN I n (fun _ => 0)) (zN R n (fun _ => none)) (k + 1) (w + len) q ls (.ref n :: st)) : z_L p e s m args below meth c G M P Q n T I R k w pc ls (.int x :: st) := by
  subst hq
  subst hx
  subst hty
  intro Cx H locs L hn hH hS hL
  obtain ⟨hx, hb, hml, hown, hts, hr, hlk, hinit, hK, hz⟩ := id Cx
  have hln : len < 2 ^ 31 := by omega
  refine va_newaK hx hb (hts _ (List.mem_of_getElem? h1)) rfl hd rfl (nI_pos hln) (nI_clamp hln) hbytes hcap.1 hcap.2 hn fun H1 cA e1 z1 o1 hAr hNm => ?_
  refine kk Cx H1 _ L z1 (z_H_new hH hn (by rw [← hn]; exact Nat.le_trans hz hS.1) (fun a' h => zN_n I _ h) (fun a' h => zN_n R _ h) ?_ o1) ⟨Nat.le_trans hS.1 (by rw [z1, ← hn]; omega), fun x a1 a2 => (o1 x (by rw [← hn]; exact Nat.lt_of_lt_of_le a1 hS.1)).trans (hS.2.1 x a1 a2), hS.2.2⟩ hL
  rw [zN_s, zN_s]
  refine ⟨cA, ?_, hAr, hra s cA hNm⟩
  rw [e1]
  exact congrArg (fun z => some (arrV cA len z)) (funext hdef)
theorem X_lt {b L0 : Nat} {xs : Nat → Int32} {U : State} {H : Heap} (hX : va_X b L0 xs U H) : b < H.size := by
  obtain ⟨scr, h, -⟩ := hX
  exact (Array.getElem?_eq_some_iff.mp h).1
theorem l_sld {b L0 : Nat} {xs : Nat → Int32} {x : Int32} (j : Nat) (hX : va_X b L0 xs s s.heap) (hG : b < G.2.2) (hx : x = nI j) (hj : j < L0) (hL0 : L0 < 2 ^ 31) (hd : decode M.2.1 pc = .ok (.iaload, 1)) (hq : pc + 1 = q) (kk : z_L p e s m args below meth c G M P Q n T I R k w q ls (.int (xs j) :: st)) : z_L p e s m args below meth c G M P Q n T I R k w pc ls (.int x :: .ref b :: st) := by
  subst hq
  subst hx
  intro Cx H locs L hn hH hS hL
  have hc : (nI j).toNatClampNeg = j := nI_clamp (by omega)
  refine va_sld Cx.1 Cx.2.1 hX (X_lt hX) (fun z => by unfold z_F at z; omega) hS (fun z => ?_) hd ?_
  · rcases z with z | z
    · exact nI_pos (n := j) (by omega) z
    · rw [hc] at z; omega
  · rw [hc]
    exact kk Cx H locs L hn hH hS hL
theorem l_slen {b L0 : Nat} {xs : Nat → Int32} (hX : va_X b L0 xs s s.heap) (hG : b < G.2.2) (hd : decode M.2.1 pc = .ok (.arraylength, 1)) (hq : pc + 1 = q) (kk : z_L p e s m args below meth c G M P Q n T I R k w q ls (.int (nI L0) :: st)) : z_L p e s m args below meth c G M P Q n T I R k w pc ls (.ref b :: st) := by
  subst hq
  intro Cx H locs L hn hH hS hL
  exact va_slen Cx.1 Cx.2.1 hX (X_lt hX) (fun z => by unfold z_F at z; omega) hS hd (kk Cx H locs L hn hH hS hL)
/-- a method's contract where the script stands -/
def CtX (G : zG) (y : MethodName) (ws : List Cond) (P : zP) (As : List Value) (n : Nat) (T : zTT) (I : zII) (R : zRR) (b L0 : Nat) (xs : Nat → Int32) (Q : zQ) : Prop :=
  Met G.1 y ws (z_rm P) (va_Pc As (fun U => z_pre G n T I R U ∧ va_X b L0 xs U U.heap ∧ b < G.2.2)) (z_Qc G Q) P.2.1 P.2.2 (z_F G.2.2)
theorem CtX.ofL {y : MethodName} {ws' : List Cond} {As : List Value} {b L0 : Nat} {xs : Nat → Int32}
    (hy : plainFor y = true) (hcls : y.cls = M.1) (hnm : M.2.2.2.2.2 = true → y.name = "<init>") (hw : M.2.2.2.1 = Cond.code y M.2.1 M.2.2.1 M.2.2.2.2.1 :: ws') (hls : lv_args 0 As = ls) (hlen : (lg_sl As).length ≤ M.2.2.1)
    (h : ∀ (p : Program) (e : Env) (s : State) (m : MethodId) (args : Array Value) (below : List Frame) (meth : Method) (c : Code), va_X b L0 xs s s.heap → b < G.2.2 → z_L p e s m args below meth c G M P Q n T I R 0 0 0 ls []) : CtX G y M.2.2.2.1 P As n T I R b L0 xs Q := by
  refine va_MetF (cc := M.2.1) (maxL := M.2.2.1) (ret := M.2.2.2.2.1) hy hw ?_
  intro p e s m args below meth c s₁ B hml hv
  obtain ⟨rfl, ⟨hn, hH, hK, hz⟩, hX, hb⟩ := hv
  have hown : s.vm.findClass M.1 = some m.cls := by rw [← hcls]; exact findClass_of_methodNamed B.named
  have hl := lv_entry As (n := M.2.2.1) hlen
  rw [lg_entry_eq]
  rw [hls] at hl
  refine h p e s m As.toArray below meth c hX hb ⟨B.exec, B.bytes, hml, hown, atoms_spec (ws := M.2.2.2.1) B.pre, B.returns, B.notSynchronized, fun hi => ?_, hK, ?_⟩ s.heap [] _ hn hH va_S.rf hl
  · rw [← hnm hi]
    exact (name_of_methodNamed B.named B.method).1
  · rw [hn]; exact hz
theorem x_blind {As : List Value} {b L0 : Nat} {xs : Nat → Int32} : FrameBlind (va_Pc As (fun U => z_pre G n T I R U ∧ va_X b L0 xs U U.heap ∧ b < G.2.2)) := fun a U g mk h => ⟨h.1, ⟨h.2.1.1, h.2.1.2.1.moved (U := U.calling g mk a) (Vm.Alike.refl U.vm), h.2.1.2.2.1.calling, h.2.1.2.2.2⟩, va_X.moved (U := U.calling g mk a) (Vm.Alike.refl U.vm) h.2.2.1, h.2.2.2⟩
theorem l_invSX {y : MethodName} {ws ws' : List Cond} {P' : zP} {As : List Value} {Qc : zQ} {bytes : ByteArray} {maxL na index : Nat} {ret : Option FieldType} {stk : List Value} {b L0 : Nat} {xs : Nat → Int32} (hX : va_X b L0 xs s s.heap) (hbG : b < G.2.2) (hc : CtX G y ws P' As n T I R b L0 xs Qc) (hG : GoodIn M.2.2.2.1 (va_wsS M.1 index y ws)) (hw : ws = Cond.code y bytes maxL ret :: ws')
    (hy : y.cls ≠ "java/lang/invoke/MethodHandle" ∧ y.cls ≠ "java/lang/invoke/VarHandle" ∧ (parseMethodDescriptor y.desc).map (fun d => d.parameters.length) = some na) (hfr : Nat.ble (P'.1 + 1) P.1 = true) (hlo : Nat.ble (8 + (maxL + 11) + 36 * P'.1) (36 * P.1) = true) (hna : As.length = na) (hst : stk = As.reverse ++ st) (hW : (st.map fun v => v.category).sum ≤ 8) (hcap : k + P'.2.1 ≤ P.2.1 ∧ w + P'.2.2 ≤ P.2.2) (hd : decode M.2.1 pc = .ok (.invokestatic index, 3)) (hq : pc + 3 = q)
    (kk : ∀ (r : Option Value) (n' : Nat) (T' : zTT) (I' : zII) (R' : zRR), Qc r n' T' I' R' → z_L p e s m args below meth c G M P Q n' T' I' R' (k + P'.2.1) (w + P'.2.2) q ls (r.toList ++ st)) : z_L p e s m args below meth c G M P Q n T I R k w pc ls stk := by
  subst hq
  subst hst
  intro Cx H locs L hn hH hS hL
  obtain ⟨hx, hb, hml, hown, hts, hr, hlk, hin, hK, hz⟩ := id Cx
  refine l_after Cx hn hS hL (va_runS (As := As) ⟨hx, hb, rfl, hown, hts⟩ hc (va_cwS na hts hG hw rfl rfl hy ⟨Nat.le_of_ble_eq_true hfr, Nat.le_of_ble_eq_true hlo⟩) ⟨x_blind, fun U hU hWm => ⟨rfl, z_pre_of Cx hn hH hS U hU hWm, ?_, hbG⟩⟩ rfl hna (hL.1.trans hml.symm) rfl (lv_room hW) hd hcap) kk
  refine va_X.moved hWm.alike (va_X.kept hX ?_)
  rw [hU]
  exact hS.2.1 b (X_lt hX) (fun z => by unfold z_F at z; omega)
end ZL
