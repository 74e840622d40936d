/-! THE SYMBOLIC MACHINE OVER W: a memory is (its size, what stands where, ints by cell and place, references by cell and place); z_X says: from this point, with these locals, this stack and this memory, the method ends with Q -/
abbrev zTy : Type := Nat ⊕ (FieldType × Nat)
abbrev zTT : Type := Nat → Option zTy
abbrev zII : Type := Nat → Nat → Int32
abbrev zRR : Type := Nat → Nat → Option Nat
/-- launch, classes, first cell of ours -/
abbrev zG : Type := Launch × va_G × Nat
/-- a method: class, bytes, locals, words, answer's type, is a constructor -/
abbrev zM : Type := String × ByteArray × Nat × List Cond × Option FieldType × Bool
/-- room: frames below, cells, slots -/
abbrev zP : Type := Nat × Nat × Nat
abbrev zQ : Type := Option Value → Nat → zTT → zII → zRR → Prop
def z_ref (t : zTy) (k : Nat) : Bool := match t with
  | .inl 0 => Nat.beq k 0 || (Nat.beq k 7 || (Nat.beq k 8 || Nat.beq k 9))
  | .inl 1 => false
  | .inl 2 => Nat.beq k 0
  | .inl 3 => Nat.beq k 0 || (Nat.beq k 1 || (Nat.beq k 2 || Nat.beq k 3))
  | .inl 4 => Nat.beq k 0
  | .inl 5 => Nat.beq k 6
  | .inl 6 => Nat.beq k 0 || Nat.beq k 5
  | .inl 7 => true
  | .inl 8 => Nat.beq k 0 || (Nat.beq k 1 || (Nat.beq k 2 || (Nat.beq k 4 || (Nat.beq k 6 || (Nat.beq k 7 || (Nat.beq k 9))))))
  | .inl _ => false
  | .inr (.object _, _) => true
  | .inr (.array _, _) => true
  | .inr (_, _) => false
def z_val (t : zTy) (I : Nat → Int32) (R : Nat → Option Nat) : Nat → Value := fun k => bif z_ref t k then va_rf (R k) else .int (I k)
def z_at (D : va_G) (U : State) (H : Heap) (a : Nat) (t : zTy) (V : Nat → Value) : Prop := match t with
  | .inl ci => ∃ r : vw_C, vwCl[ci]? = some r ∧ t_OB a (D.1 ci) r.2.2 (D.2 ci) H V
  | .inr (ty, n) => ∃ cA : ClassId, H[a]? = some (arrV cA n V) ∧ ArrOfT U cA ty ∧ va_RA U cA ty
def z_H (D : va_G) (n0 : Nat) (T : zTT) (I : zII) (R : zRR) (U : State) (H : Heap) : Prop := ∀ (a : Nat) (t : zTy), T a = some t → n0 ≤ a ∧ z_at D U H a t (z_val t (I a) (R a))
def z_D (D : va_G) : Prop := ∀ (ci : Nat) (r : vw_C), vwCl[ci]? = some r → ∀ x y, x < r.2.2 → y < r.2.2 → x ≠ y → D.2 ci x ≠ D.2 ci y
/-- links between nest mates that the start gives -/
def z_KN (U : State) : Prop := va_Nw (.methodLinkNest RX7 28 yX6_init RX7) U ∧ va_Nw (.methodLinkNest RX7 35 yX1_init RX7) U ∧ va_Nw (.methodLinkNest RX3 35 yX5_init RX7) U ∧ va_Nw (.methodLinkNest RX3 36 yX0_init RX7) U ∧ va_Nw (.methodLinkNest RX4 17 yX1_init RX7) U ∧ va_Nw (.methodLinkNest RX6 17 yX1_init RX7) U ∧ True
def z_K (D : va_G) (U : State) : Prop := va_K D vwCl [] U ∧ z_D D ∧ (va_AO RX0 U ∧ va_AO RX1 U ∧ va_AO RX3 U ∧ va_AO RX5 U) ∧ z_KN U
theorem z_KN.warm {s U : State} (hW : s.WarmedH U.vm) (h : z_KN s) : z_KN U := by
  obtain ⟨a, b, c, d, e, f, g⟩ := h
  exact ⟨a.warmM hW, b.warmM hW, c.warmM hW, d.warmM hW, e.warmM hW, f.warmM hW, g⟩
theorem z_KN.same {s U : State} (hW : s.vm = U.vm) (h : z_KN s) : z_KN U := by
  obtain ⟨a, b, c, d, e, f, g⟩ := h
  exact ⟨a.same rfl hW, b.same rfl hW, c.same rfl hW, d.same rfl hW, e.same rfl hW, f.same rfl hW, g⟩
theorem z_K.warm {D : va_G} {s U : State} (hW : s.WarmedH U.vm) (h : z_K D s) : z_K D U := ⟨va_K.moved hW.alike h.1, h.2.1, ⟨h.2.2.1.1.moved hW.alike, h.2.2.1.2.1.moved hW.alike, h.2.2.1.2.2.1.moved hW.alike, h.2.2.1.2.2.2.moved hW.alike⟩, h.2.2.2.warm hW⟩
theorem z_K.calling {D : va_G} {U : State} {g : JFrame} {mk : MethodId} {a : Array Value} (h : z_K D U) : z_K D (U.calling g mk a) := ⟨va_K.moved (u := U) (U := U.calling g mk a) (Vm.Alike.refl U.vm) h.1, h.2.1, ⟨h.2.2.1.1.moved (U := U.calling g mk a) (Vm.Alike.refl U.vm), h.2.2.1.2.1.moved (U := U.calling g mk a) (Vm.Alike.refl U.vm), h.2.2.1.2.2.1.moved (U := U.calling g mk a) (Vm.Alike.refl U.vm), h.2.2.1.2.2.2.moved (U := U.calling g mk a) (Vm.Alike.refl U.vm)⟩, h.2.2.2.same rfl⟩
theorem z_at.moved {D : va_G} {u U : State} {H : Heap} {a : Nat} {t : zTy} {V : Nat → Value} (hvm : u.vm.Alike U.vm) (h : z_at D u H a t V) : z_at D U H a t V := by
  rcases t with ci | ⟨ty, n⟩
  · exact h
  · obtain ⟨cA, h1, h2, h3⟩ := h
    exact ⟨cA, h1, arrOfT_moved hvm h2, h3.moved hvm⟩
theorem z_H.moved {D : va_G} {n0 : Nat} {T : zTT} {I : zII} {R : zRR} {u U : State} {H : Heap} (hvm : u.vm.Alike U.vm) (h : z_H D n0 T I R u H) : z_H D n0 T I R U H := fun a t ht => ⟨(h a t ht).1, (h a t ht).2.moved hvm⟩
theorem z_at.kept {D : va_G} {u : State} {H H1 : Heap} {a : Nat} {t : zTy} {V : Nat → Value} (h : z_at D u H a t V) (hq : H1[a]? = H[a]?) : z_at D u H1 a t V := by
  rcases t with ci | ⟨ty, n⟩
  · obtain ⟨r, h1, h2⟩ := h
    exact ⟨r, h1, h2.kept hq⟩
  · obtain ⟨cA, h1, h2, h3⟩ := h
    exact ⟨cA, hq.trans h1, h2, h3⟩
theorem z_at.lt {D : va_G} {u : State} {H : Heap} {a : Nat} {t : zTy} {V : Nat → Value} (h : z_at D u H a t V) : a < H.size := by
  rcases t with ci | ⟨ty, n⟩
  · obtain ⟨r, h1, cell, h2, -⟩ := h
    exact (Array.getElem?_eq_some_iff.mp h2).1
  · obtain ⟨cA, h1, -⟩ := h
    exact (Array.getElem?_eq_some_iff.mp h1).1
/-- writes -/
def zw {α : Type} (I : Nat → Nat → α) (a k : Nat) (x : α) : Nat → Nat → α := fun a' k' => if a' = a ∧ k' = k then x else I a' k'
def zN {α : Type} (I : Nat → α) (n : Nat) (f : α) : Nat → α := fun a => if a = n then f else I a
theorem zw_s {α : Type} (I : Nat → Nat → α) (a k : Nat) (x : α) : zw I a k x a k = x := by simp [zw]
theorem zw_a {α : Type} (I : Nat → Nat → α) {a a' k k' : Nat} (x : α) (h : a' ≠ a) : zw I a k x a' k' = I a' k' := by simp [zw, h]
theorem zw_k {α : Type} (I : Nat → Nat → α) {a a' k k' : Nat} (x : α) (h : k' ≠ k) : zw I a k x a' k' = I a' k' := by simp [zw, h]
theorem zw_row {α : Type} (I : Nat → Nat → α) {a a' k : Nat} (x : α) (h : a' ≠ a) : zw I a k x a' = I a' := by
  funext k'
  simp [zw, h]
theorem zN_s {α : Type} (I : Nat → α) (n : Nat) (f : α) : zN I n f n = f := by simp [zN]
theorem zN_n {α : Type} (I : Nat → α) {n a : Nat} (f : α) (h : a ≠ n) : zN I n f a = I a := by simp [zN, h]
/-- locals: a list of places and values -/
def zg : List (Nat × Value) → Nat → Option Value
  | [], _ => none
  | q :: r, i => bif Nat.beq q.1 i then some q.2 else zg r i
def zr : List (Nat × Value) → Nat → List (Nat × Value)
  | [], _ => []
  | q :: r, i => bif Nat.beq q.1 i || (Nat.beq (q.1 + 1) i && Nat.beq q.2.category 2) then zr r i else q :: zr r i
def zs : List (Nat × Value) → Nat → Value → List (Nat × Value)
  | [], i, v => [(i, v)]
  | q :: r, i, v => bif Nat.beq q.1 i then (i, v) :: zr r i else bif (Nat.beq (q.1 + 1) i && Nat.beq q.2.category 2) then zs r i v else q :: zs r i v
theorem z_beq (a b : Nat) : Nat.beq a b = (a == b) := by
  by_cases h : a = b
  · subst h
    have h1 : Nat.beq a a = true := Nat.beq_refl a
    rw [h1]
    simp
  · have h1 : Nat.beq a b = false := by
      cases hb : Nat.beq a b with
      | false => rfl
      | true => exact absurd (Nat.eq_of_beq_eq_true hb) h
    rw [h1]
    simp [h]
theorem zg_in {l : List (Nat × Value)} {i : Nat} {v : Value} (h : zg l i = some v) : (i, v) ∈ l := by
  induction l with
  | nil => cases h
  | cons q r ih =>
    unfold zg at h
    cases hb : Nat.beq q.1 i with
    | true =>
      rw [hb] at h
      have h1 := Nat.eq_of_beq_eq_true hb
      have h2 : q.2 = v := Option.some.inj h
      have : q = (i, v) := by rw [← h1, ← h2]
      rw [this]; exact List.mem_cons_self
    | false => rw [hb] at h; exact List.mem_cons_of_mem _ (ih h)
theorem zr_in {l : List (Nat × Value)} {i : Nat} : ∀ q ∈ zr l i, q ∈ l.filter (fun q => !(q.1 == i) && !(q.1 + 1 == i && q.2.category == 2)) := by
  induction l with
  | nil => intro q h; cases h
  | cons p r ih =>
    intro q h
    unfold zr at h
    rw [List.filter_cons]
    cases hb : (Nat.beq p.1 i || (Nat.beq (p.1 + 1) i && Nat.beq p.2.category 2)) with
    | true =>
      rw [hb] at h
      have h1 := ih q h
      split
      · exact List.mem_cons_of_mem _ h1
      · exact h1
    | false =>
      rw [hb] at h
      have hk : (!(p.1 == i) && !(p.1 + 1 == i && p.2.category == 2)) = true := by
        have e1 : Nat.beq p.1 i = (p.1 == i) := z_beq _ _
        have e2 : Nat.beq (p.1 + 1) i = (p.1 + 1 == i) := z_beq _ _
        have e3 : Nat.beq p.2.category 2 = (p.2.category == 2) := z_beq _ _
        rw [e1, e2, e3] at hb
        revert hb
        cases (p.1 == i) <;> cases (p.1 + 1 == i) <;> cases (p.2.category == 2) <;> simp
      rw [if_pos hk]
      rcases List.mem_cons.mp h with h1 | h1
      · rw [h1]; exact List.mem_cons_self
      · exact List.mem_cons_of_mem _ (ih q h1)
theorem zs_in {l : List (Nat × Value)} {i : Nat} {v : Value} : ∀ q ∈ zs l i v, q ∈ (i, v) :: l.filter (fun q => !(q.1 == i) && !(q.1 + 1 == i && q.2.category == 2)) := by
  induction l with
  | nil => intro q h; exact h
  | cons p r ih =>
    intro q h
    unfold zs at h
    rw [List.filter_cons]
    cases hb : Nat.beq p.1 i with
    | true =>
      rw [hb] at h
      rcases List.mem_cons.mp h with h1 | h1
      · rw [h1]; exact List.mem_cons_self
      · refine List.mem_cons_of_mem _ ?_
        have h2 := zr_in q h1
        split
        · exact List.mem_cons_of_mem _ h2
        · exact h2
    | false =>
      rw [hb] at h
      cases hc : (Nat.beq (p.1 + 1) i && Nat.beq p.2.category 2) with
      | true =>
        rw [hc] at h
        rcases List.mem_cons.mp (ih q h) with h1 | h1
        · rw [h1]; exact List.mem_cons_self
        · refine List.mem_cons_of_mem _ ?_
          split
          · exact List.mem_cons_of_mem _ h1
          · exact h1
      | false =>
        rw [hc] at h
        have hk : (!(p.1 == i) && !(p.1 + 1 == i && p.2.category == 2)) = true := by
          have e1 : Nat.beq p.1 i = (p.1 == i) := z_beq _ _
          have e2 : Nat.beq (p.1 + 1) i = (p.1 + 1 == i) := z_beq _ _
          have e3 : Nat.beq p.2.category 2 = (p.2.category == 2) := z_beq _ _
          rw [e1] at hb
          rw [e2, e3] at hc
          revert hb hc
          cases (p.1 == i) <;> cases (p.1 + 1 == i) <;> cases (p.2.category == 2) <;> simp
        rw [if_pos hk]
        rcases List.mem_cons.mp h with h1 | h1
        · rw [h1]; exact List.mem_cons_of_mem _ List.mem_cons_self
        · rcases List.mem_cons.mp (ih q h1) with h2 | h2
          · rw [h2]; exact List.mem_cons_self
          · exact List.mem_cons_of_mem _ (List.mem_cons_of_mem _ h2)
theorem z_has_in {L : Array Slot} {nL : Nat} {l l' : List (Nat × Value)} (h : lv_has L nL l) (hi : ∀ q ∈ l', q ∈ l) : lv_has L nL l' := ⟨h.1, h.2.1, fun q hq => h.2.2 q (hi q hq)⟩
theorem z_has_g {L : Array Slot} {nL : Nat} {l : List (Nat × Value)} (h : lv_has L nL l) {i : Nat} {v : Value} (hg : zg l i = some v) : L[i]? = some (.val v) := h.2.2 _ (zg_in hg)
theorem z_pl {l : List (Nat × Value)} {i : Nat} {v : Value} (hg : zg l i = some v) : ∃ k : Nat, l[k]? = some (i, v) := List.getElem?_of_mem (zg_in hg)
def z_C (G : zG) (M : zM) (p : Program) (s : State) (m : MethodId) (args : Array Value) (meth : Method) (c : Code) : Prop :=
  p.tables.exec = Jvm.exec ∧ c.code = M.2.1 ∧ c.maxLocals = M.2.2.1 ∧ s.vm.findClass M.1 = some m.cls ∧ (∀ w ∈ M.2.2.2.1, w.before args s = true) ∧ meth.sig.returnType = M.2.2.2.2.1 ∧ meth.locks = false ∧ (M.2.2.2.2.2 = true → meth.name = "<init>") ∧ z_K G.2.1 s ∧ G.2.2 ≤ s.heap.size
abbrev z_rm (P : zP) : Room := { frames := P.1, cells := P.2.1, slots := P.2.2, locals := 36 * P.1 }
def z_F (n0 : Nat) : Nat → Prop := fun q => n0 ≤ q
def z_Qc (G : zG) (Q : zQ) : Array Value → State → Outcome → State → Prop := fun _ st o t => (∃ (r : Option Value) (n' : Nat) (T' : zTT) (I' : zII) (R' : zRR), o = .returned r ∧ t.heap.size = n' ∧ z_H G.2.1 G.2.2 T' I' R' t t.heap ∧ Q r n' T' I' R') ∧ va_F (z_F G.2.2) st t
def z_X (G : zG) (M : zM) (P : zP) (Q : zQ) (n : Nat) (T : zTT) (I : zII) (R : zRR) (k w pc : Nat) (ls : List (Nat × Value)) (st : List Value) : Prop :=
  ∀ (p : Program) (e : Env) (s : State) (m : MethodId) (args : Array Value) (below : List Frame) (meth : Method) (c : Code) (H : Heap) (locs : List Loc) (L : Array Slot),
    z_C G M p s m args meth c → H.size = n → z_H G.2.1 G.2.2 T I R s H → va_S (z_F G.2.2) s.heap H locs → lv_has L M.2.2.1 ls →
    W p G.1 e (z_rm P) s m args below meth c H locs k w (MQ below (z_Qc G Q) args s P.2.1 P.2.2 (z_F G.2.2)) (F0 m pc L st)
def z_pre (G : zG) (n : Nat) (T : zTT) (I : zII) (R : zRR) (U : State) : Prop := U.heap.size = n ∧ z_H G.2.1 G.2.2 T I R U U.heap ∧ z_K G.2.1 U ∧ G.2.2 ≤ n
/-- a method's contract -/
def Ct (G : zG) (y : MethodName) (ws : List Cond) (P : zP) (As : List Value) (n : Nat) (T : zTT) (I : zII) (R : zRR) (Q : zQ) : Prop :=
  Met G.1 y ws (z_rm P) (va_Pc As (z_pre G n T I R)) (z_Qc G Q) P.2.1 P.2.2 (z_F G.2.2)
theorem Ct.ofX {G : zG} {M : zM} {P : zP} {Q : zQ} {n : Nat} {T : zTT} {I : zII} {R : zRR} {y : MethodName} {ws' : List Cond} {As : List Value} {ls : List (Nat × Value)}
    (hy : plainFor y = true) (hcls : y.cls = M.1) (hnm : M.2.2.2.2.2 = true → y.name = "<init>") (hw : M.2.2.2.1 = Cond.code y M.2.1 M.2.2.1 M.2.2.2.2.1 :: ws') (hls : lv_args 0 As = ls) (hlen : (lg_sl As).length ≤ M.2.2.1)
    (h : z_X G M P Q n T I R 0 0 0 ls []) : Ct G y M.2.2.2.1 P As n T I R Q := by
  refine va_MetF (cc := M.2.1) (maxL := M.2.2.1) (ret := M.2.2.2.2.1) hy hw ?_
  intro p e s m args below meth c s₁ B hml hv
  obtain ⟨rfl, hn, hH, hK, hz⟩ := hv
  have hown : s.vm.findClass M.1 = some m.cls := by rw [← hcls]; exact findClass_of_methodNamed B.named
  have hl := lv_entry As (n := M.2.2.1) hlen
  rw [lg_entry_eq]
  rw [hls] at hl
  refine h p e s m As.toArray below meth c s.heap [] _ ⟨B.exec, B.bytes, hml, hown, atoms_spec (ws := M.2.2.2.1) B.pre, B.returns, B.notSynchronized, fun hi => ?_, hK, ?_⟩ hn hH va_S.rf hl
  · rw [← hnm hi]
    exact (name_of_methodNamed B.named B.method).1
  · rw [hn]; exact hz
section ZX
variable {G : zG} {M : zM} {P : zP} {Q : zQ} {n : Nat} {T : zTT} {I : zII} {R : zRR} {k w pc q : Nat} {ls ls' : List (Nat × Value)} {st : List Value}
theorem z_iconst {c0 : Int} {v : Int32} (hd : decode M.2.1 pc = .ok (.iconst c0, 1)) (hv : Int32.ofInt c0 = v) (hq : pc + 1 = q) (kk : z_X G M P Q n T I R k w q ls (.int v :: st)) : z_X G M P Q n T I R k w pc ls st := by
  subst hq
  intro p e s m args below meth c H locs L Cx hn hH hS hL
  exact lv_iconst Cx.1 Cx.2.1 hd hv (kk p e s m args below meth c H locs L Cx hn hH hS hL)
theorem z_bipush {c0 : Int} {v : Int32} (hd : decode M.2.1 pc = .ok (.bipush c0, 2)) (hv : (Int8.ofInt c0).toInt32 = v) (hq : pc + 2 = q) (kk : z_X G M P Q n T I R k w q ls (.int v :: st)) : z_X G M P Q n T I R k w pc ls st := by
  subst hq
  intro p e s m args below meth c H locs L Cx hn hH hS hL
  exact lv_bipush Cx.1 Cx.2.1 hd hv (kk p e s m args below meth c H locs L Cx hn hH hS hL)
theorem z_sipush {c0 : Int} {v : Int32} (hd : decode M.2.1 pc = .ok (.sipush c0, 3)) (hv : (Int16.ofInt c0).toInt32 = v) (hq : pc + 3 = q) (kk : z_X G M P Q n T I R k w q ls (.int v :: st)) : z_X G M P Q n T I R k w pc ls st := by
  subst hq
  intro p e s m args below meth c H locs L Cx hn hH hS hL
  exact lv_sipush Cx.1 Cx.2.1 hd hv (kk p e s m args below meth c H locs L Cx hn hH hS hL)
theorem z_iload_n {kf : Fin 4} {i : Nat} {x : Int32} (hd : decode M.2.1 pc = .ok (.iload_n kf, 1)) (hi : (kf : Nat) = i) (hg : zg ls i = some (.int x)) (hq : pc + 1 = q) (kk : z_X G M P Q n T I R k w q ls (.int x :: st)) : z_X G M P Q n T I R k w pc ls st := by
  subst hq
  intro p e s m args below meth c H locs L Cx hn hH hS hL
  exact lv_iload_n Cx.1 Cx.2.1 hd hi (z_has_g hL hg) (kk p e s m args below meth c H locs L Cx hn hH hS hL)
theorem z_iload {i : Nat} {x : Int32} (hd : decode M.2.1 pc = .ok (.iload i, 2)) (hg : zg ls i = some (.int x)) (hq : pc + 2 = q) (kk : z_X G M P Q n T I R k w q ls (.int x :: st)) : z_X G M P Q n T I R k w pc ls st := by
  subst hq
  intro p e s m args below meth c H locs L Cx hn hH hS hL
  exact lv_iload Cx.1 Cx.2.1 hd (z_has_g hL hg) (kk p e s m args below meth c H locs L Cx hn hH hS hL)
theorem z_lload_n {kf : Fin 4} {i : Nat} {x : Int64} (hd : decode M.2.1 pc = .ok (.lload_n kf, 1)) (hi : (kf : Nat) = i) (hg : zg ls i = some (.long x)) (hq : pc + 1 = q) (kk : z_X G M P Q n T I R k w q ls (.long x :: st)) : z_X G M P Q n T I R k w pc ls st := by
  subst hq
  intro p e s m args below meth c H locs L Cx hn hH hS hL
  exact lv_lload_n Cx.1 Cx.2.1 hd hi (z_has_g hL hg) (kk p e s m args below meth c H locs L Cx hn hH hS hL)
theorem z_lload {i : Nat} {x : Int64} (hd : decode M.2.1 pc = .ok (.lload i, 2)) (hg : zg ls i = some (.long x)) (hq : pc + 2 = q) (kk : z_X G M P Q n T I R k w q ls (.long x :: st)) : z_X G M P Q n T I R k w pc ls st := by
  subst hq
  intro p e s m args below meth c H locs L Cx hn hH hS hL
  exact lv_lload Cx.1 Cx.2.1 hd (z_has_g hL hg) (kk p e s m args below meth c H locs L Cx hn hH hS hL)
theorem z_aload_n {kf : Fin 4} {i : Nat} {x : Nat} (hd : decode M.2.1 pc = .ok (.aload_n kf, 1)) (hi : (kf : Nat) = i) (hg : zg ls i = some (.ref x)) (hq : pc + 1 = q) (kk : z_X G M P Q n T I R k w q ls (.ref x :: st)) : z_X G M P Q n T I R k w pc ls st := by
  subst hq
  intro p e s m args below meth c H locs L Cx hn hH hS hL
  exact lv_aload_n Cx.1 Cx.2.1 hd hi (z_has_g hL hg) (kk p e s m args below meth c H locs L Cx hn hH hS hL)
theorem z_aload {i : Nat} {x : Nat} (hd : decode M.2.1 pc = .ok (.aload i, 2)) (hg : zg ls i = some (.ref x)) (hq : pc + 2 = q) (kk : z_X G M P Q n T I R k w q ls (.ref x :: st)) : z_X G M P Q n T I R k w pc ls st := by
  subst hq
  intro p e s m args below meth c H locs L Cx hn hH hS hL
  exact lv_aload Cx.1 Cx.2.1 hd (z_has_g hL hg) (kk p e s m args below meth c H locs L Cx hn hH hS hL)
theorem z_aload_nN {kf : Fin 4} {i : Nat} (hd : decode M.2.1 pc = .ok (.aload_n kf, 1)) (hi : (kf : Nat) = i) (hg : zg ls i = some .null) (hq : pc + 1 = q) (kk : z_X G M P Q n T I R k w q ls (.null :: st)) : z_X G M P Q n T I R k w pc ls st := by
  subst hq
  intro p e s m args below meth c H locs L Cx hn hH hS hL
  exact lv_aload_nN Cx.1 Cx.2.1 hd hi (z_has_g hL hg) (kk p e s m args below meth c H locs L Cx hn hH hS hL)
theorem z_aloadN {i : Nat} (hd : decode M.2.1 pc = .ok (.aload i, 2)) (hg : zg ls i = some .null) (hq : pc + 2 = q) (kk : z_X G M P Q n T I R k w q ls (.null :: st)) : z_X G M P Q n T I R k w pc ls st := by
  subst hq
  intro p e s m args below meth c H locs L Cx hn hH hS hL
  exact lv_aloadN Cx.1 Cx.2.1 hd (z_has_g hL hg) (kk p e s m args below meth c H locs L Cx hn hH hS hL)
theorem z_istore_n {kf : Fin 4} {i : Nat} {x : Int32} (hd : decode M.2.1 pc = .ok (.istore_n kf, 1)) (hi : (kf : Nat) = i) (hn2 : i < M.2.2.1) (hq : pc + 1 = q) (kk : z_X G M P Q n T I R k w q (zs ls i (.int x)) st) : z_X G M P Q n T I R k w pc ls ((.int x) :: st) := by
  subst hq
  intro p e s m args below meth c H locs L Cx hn hH hS hL
  exact lv_istore_n Cx.1 Cx.2.1 hd hi hL hn2 rfl (fun L' hL' => kk p e s m args below meth c H locs L' Cx hn hH hS (z_has_in hL' zs_in))
theorem z_istore {i : Nat} {x : Int32} (hd : decode M.2.1 pc = .ok (.istore i, 2))  (hn2 : i < M.2.2.1) (hq : pc + 2 = q) (kk : z_X G M P Q n T I R k w q (zs ls i (.int x)) st) : z_X G M P Q n T I R k w pc ls ((.int x) :: st) := by
  subst hq
  intro p e s m args below meth c H locs L Cx hn hH hS hL
  exact lv_istore Cx.1 Cx.2.1 hd  hL hn2 rfl (fun L' hL' => kk p e s m args below meth c H locs L' Cx hn hH hS (z_has_in hL' zs_in))
theorem z_astore_n {kf : Fin 4} {i : Nat} {x : Nat} (hd : decode M.2.1 pc = .ok (.astore_n kf, 1)) (hi : (kf : Nat) = i) (hn2 : i < M.2.2.1) (hq : pc + 1 = q) (kk : z_X G M P Q n T I R k w q (zs ls i (.ref x)) st) : z_X G M P Q n T I R k w pc ls ((.ref x) :: st) := by
  subst hq
  intro p e s m args below meth c H locs L Cx hn hH hS hL
  exact lv_astore_n Cx.1 Cx.2.1 hd hi hL hn2 rfl (fun L' hL' => kk p e s m args below meth c H locs L' Cx hn hH hS (z_has_in hL' zs_in))
theorem z_astore {i : Nat} {x : Nat} (hd : decode M.2.1 pc = .ok (.astore i, 2))  (hn2 : i < M.2.2.1) (hq : pc + 2 = q) (kk : z_X G M P Q n T I R k w q (zs ls i (.ref x)) st) : z_X G M P Q n T I R k w pc ls ((.ref x) :: st) := by
  subst hq
  intro p e s m args below meth c H locs L Cx hn hH hS hL
  exact lv_astore Cx.1 Cx.2.1 hd  hL hn2 rfl (fun L' hL' => kk p e s m args below meth c H locs L' Cx hn hH hS (z_has_in hL' zs_in))
theorem z_astore_nN {kf : Fin 4} {i : Nat} (hd : decode M.2.1 pc = .ok (.astore_n kf, 1)) (hi : (kf : Nat) = i) (hn2 : i < M.2.2.1) (hq : pc + 1 = q) (kk : z_X G M P Q n T I R k w q (zs ls i .null) st) : z_X G M P Q n T I R k w pc ls (.null :: st) := by
  subst hq
  intro p e s m args below meth c H locs L Cx hn hH hS hL
  exact lv_astore_nN Cx.1 Cx.2.1 hd hi hL hn2 rfl (fun L' hL' => kk p e s m args below meth c H locs L' Cx hn hH hS (z_has_in hL' zs_in))
theorem z_astoreN {i : Nat} (hd : decode M.2.1 pc = .ok (.astore i, 2))  (hn2 : i < M.2.2.1) (hq : pc + 2 = q) (kk : z_X G M P Q n T I R k w q (zs ls i .null) st) : z_X G M P Q n T I R k w pc ls (.null :: st) := by
  subst hq
  intro p e s m args below meth c H locs L Cx hn hH hS hL
  exact lv_astoreN Cx.1 Cx.2.1 hd  hL hn2 rfl (fun L' hL' => kk p e s m args below meth c H locs L' Cx hn hH hS (z_has_in hL' zs_in))
theorem z_lstore {i : Nat} {x : Int64} (hd : decode M.2.1 pc = .ok (.lstore i, 2)) (hn2 : i + 1 < M.2.2.1) (hq : pc + 2 = q) (kk : z_X G M P Q n T I R k w q ((i, .long x) :: ls.filter (fun q => !(q.1 == i) && (!(q.1 == i + 1) && !(q.1 + 1 == i && q.2.category == 2)))) st) : z_X G M P Q n T I R k w pc ls (.long x :: st) := by
  subst hq
  intro p e s m args below meth c H locs L Cx hn hH hS hL
  exact lv_lstore Cx.1 Cx.2.1 hd hL hn2 rfl (fun L' hL' => kk p e s m args below meth c H locs L' Cx hn hH hS hL')
theorem z_iinc {i : Nat} {c0 : Int} {x v : Int32} (hd : decode M.2.1 pc = .ok (.iinc i c0, 3)) (hg : zg ls i = some (.int x)) (hv : x + Int32.ofInt c0 = v) (hn2 : i < M.2.2.1) (hq : pc + 3 = q) (kk : z_X G M P Q n T I R k w q (zs ls i (.int v)) st) : z_X G M P Q n T I R k w pc ls st := by
  subst hq
  intro p e s m args below meth c H locs L Cx hn hH hS hL
  obtain ⟨j, hj⟩ := z_pl hg
  exact lv_iinc Cx.1 Cx.2.1 hd hL hj hv hn2 rfl (fun L' hL' => kk p e s m args below meth c H locs L' Cx hn hH hS (z_has_in hL' zs_in))
theorem z_iadd {x y : Int32} (hd : decode M.2.1 pc = .ok (.iadd, 1))  (hq : pc + 1 = q) (kk : z_X G M P Q n T I R k w q ls (.int (x + y) :: st)) : z_X G M P Q n T I R k w pc ls (.int y :: .int x :: st) := by
  subst hq
  intro p e s m args below meth c H locs L Cx hn hH hS hL
  exact lv_iadd Cx.1 Cx.2.1 hd  (kk p e s m args below meth c H locs L Cx hn hH hS hL)
theorem z_isub {x y : Int32} (hd : decode M.2.1 pc = .ok (.isub, 1))  (hq : pc + 1 = q) (kk : z_X G M P Q n T I R k w q ls (.int (x - y) :: st)) : z_X G M P Q n T I R k w pc ls (.int y :: .int x :: st) := by
  subst hq
  intro p e s m args below meth c H locs L Cx hn hH hS hL
  exact lv_isub Cx.1 Cx.2.1 hd  (kk p e s m args below meth c H locs L Cx hn hH hS hL)
theorem z_imul {x y : Int32} (hd : decode M.2.1 pc = .ok (.imul, 1))  (hq : pc + 1 = q) (kk : z_X G M P Q n T I R k w q ls (.int (x * y) :: st)) : z_X G M P Q n T I R k w pc ls (.int y :: .int x :: st) := by
  subst hq
  intro p e s m args below meth c H locs L Cx hn hH hS hL
  exact lv_imul Cx.1 Cx.2.1 hd  (kk p e s m args below meth c H locs L Cx hn hH hS hL)
theorem z_iand {x y : Int32} (hd : decode M.2.1 pc = .ok (.iand, 1))  (hq : pc + 1 = q) (kk : z_X G M P Q n T I R k w q ls (.int (x &&& y) :: st)) : z_X G M P Q n T I R k w pc ls (.int y :: .int x :: st) := by
  subst hq
  intro p e s m args below meth c H locs L Cx hn hH hS hL
  exact lv_iand Cx.1 Cx.2.1 hd  (kk p e s m args below meth c H locs L Cx hn hH hS hL)
theorem z_ior {x y : Int32} (hd : decode M.2.1 pc = .ok (.ior, 1))  (hq : pc + 1 = q) (kk : z_X G M P Q n T I R k w q ls (.int (x ||| y) :: st)) : z_X G M P Q n T I R k w pc ls (.int y :: .int x :: st) := by
  subst hq
  intro p e s m args below meth c H locs L Cx hn hH hS hL
  exact lv_ior Cx.1 Cx.2.1 hd  (kk p e s m args below meth c H locs L Cx hn hH hS hL)
theorem z_ixor {x y : Int32} (hd : decode M.2.1 pc = .ok (.ixor, 1))  (hq : pc + 1 = q) (kk : z_X G M P Q n T I R k w q ls (.int (x ^^^ y) :: st)) : z_X G M P Q n T I R k w pc ls (.int y :: .int x :: st) := by
  subst hq
  intro p e s m args below meth c H locs L Cx hn hH hS hL
  exact lv_ixor Cx.1 Cx.2.1 hd  (kk p e s m args below meth c H locs L Cx hn hH hS hL)
theorem z_ishl {x y : Int32} (hd : decode M.2.1 pc = .ok (.ishl, 1))  (hq : pc + 1 = q) (kk : z_X G M P Q n T I R k w q ls (.int (x <<< (y &&& 31)) :: st)) : z_X G M P Q n T I R k w pc ls (.int y :: .int x :: st) := by
  subst hq
  intro p e s m args below meth c H locs L Cx hn hH hS hL
  exact lv_ishl Cx.1 Cx.2.1 hd  (kk p e s m args below meth c H locs L Cx hn hH hS hL)
theorem z_ishr {x y : Int32} (hd : decode M.2.1 pc = .ok (.ishr, 1))  (hq : pc + 1 = q) (kk : z_X G M P Q n T I R k w q ls (.int (x >>> (y &&& 31)) :: st)) : z_X G M P Q n T I R k w pc ls (.int y :: .int x :: st) := by
  subst hq
  intro p e s m args below meth c H locs L Cx hn hH hS hL
  exact lv_ishr Cx.1 Cx.2.1 hd  (kk p e s m args below meth c H locs L Cx hn hH hS hL)
theorem z_iaddE {x y v : Int32} (hd : decode M.2.1 pc = .ok (.iadd, 1)) (hv : x + y = v) (hq : pc + 1 = q) (kk : z_X G M P Q n T I R k w q ls (.int v :: st)) : z_X G M P Q n T I R k w pc ls (.int y :: .int x :: st) := by
  subst hq
  subst hv
  intro p e s m args below meth c H locs L Cx hn hH hS hL
  exact lv_iadd Cx.1 Cx.2.1 hd  (kk p e s m args below meth c H locs L Cx hn hH hS hL)
theorem z_isubE {x y v : Int32} (hd : decode M.2.1 pc = .ok (.isub, 1)) (hv : x - y = v) (hq : pc + 1 = q) (kk : z_X G M P Q n T I R k w q ls (.int v :: st)) : z_X G M P Q n T I R k w pc ls (.int y :: .int x :: st) := by
  subst hq
  subst hv
  intro p e s m args below meth c H locs L Cx hn hH hS hL
  exact lv_isub Cx.1 Cx.2.1 hd  (kk p e s m args below meth c H locs L Cx hn hH hS hL)
theorem z_imulE {x y v : Int32} (hd : decode M.2.1 pc = .ok (.imul, 1)) (hv : x * y = v) (hq : pc + 1 = q) (kk : z_X G M P Q n T I R k w q ls (.int v :: st)) : z_X G M P Q n T I R k w pc ls (.int y :: .int x :: st) := by
  subst hq
  subst hv
  intro p e s m args below meth c H locs L Cx hn hH hS hL
  exact lv_imul Cx.1 Cx.2.1 hd  (kk p e s m args below meth c H locs L Cx hn hH hS hL)
theorem z_idiv {x y : Int32} (hd : decode M.2.1 pc = .ok (.idiv, 1)) (hne : ¬ y = 0) (hq : pc + 1 = q) (kk : z_X G M P Q n T I R k w q ls (.int (x / y) :: st)) : z_X G M P Q n T I R k w pc ls (.int y :: .int x :: st) := by
  subst hq
  intro p e s m args below meth c H locs L Cx hn hH hS hL
  exact lv_idiv Cx.1 Cx.2.1 hd hne (kk p e s m args below meth c H locs L Cx hn hH hS hL)
theorem z_irem {x y : Int32} (hd : decode M.2.1 pc = .ok (.irem, 1)) (hne : ¬ y = 0) (hq : pc + 1 = q) (kk : z_X G M P Q n T I R k w q ls (.int (x - x / y * y) :: st)) : z_X G M P Q n T I R k w pc ls (.int y :: .int x :: st) := by
  subst hq
  intro p e s m args below meth c H locs L Cx hn hH hS hL
  exact lv_irem Cx.1 Cx.2.1 hd hne (kk p e s m args below meth c H locs L Cx hn hH hS hL)
theorem z_idivE {x y v : Int32} (hd : decode M.2.1 pc = .ok (.idiv, 1)) (hne : ¬ y = 0) (hv : x / y = v) (hq : pc + 1 = q) (kk : z_X G M P Q n T I R k w q ls (.int v :: st)) : z_X G M P Q n T I R k w pc ls (.int y :: .int x :: st) := by
  subst hq
  subst hv
  intro p e s m args below meth c H locs L Cx hn hH hS hL
  exact lv_idiv Cx.1 Cx.2.1 hd hne (kk p e s m args below meth c H locs L Cx hn hH hS hL)
theorem z_iremE {x y v : Int32} (hd : decode M.2.1 pc = .ok (.irem, 1)) (hne : ¬ y = 0) (hv : x - x / y * y = v) (hq : pc + 1 = q) (kk : z_X G M P Q n T I R k w q ls (.int v :: st)) : z_X G M P Q n T I R k w pc ls (.int y :: .int x :: st) := by
  subst hq
  subst hv
  intro p e s m args below meth c H locs L Cx hn hH hS hL
  exact lv_irem Cx.1 Cx.2.1 hd hne (kk p e s m args below meth c H locs L Cx hn hH hS hL)
theorem z_ineg {x : Int32} (hd : decode M.2.1 pc = .ok (.ineg, 1))  (hq : pc + 1 = q) (kk : z_X G M P Q n T I R k w q ls (.int (-x) :: st)) : z_X G M P Q n T I R k w pc ls (.int x :: st) := by
  subst hq
  intro p e s m args below meth c H locs L Cx hn hH hS hL
  exact lv_ineg Cx.1 Cx.2.1 hd  (kk p e s m args below meth c H locs L Cx hn hH hS hL)
theorem z_ladd {x y : Int64} (hd : decode M.2.1 pc = .ok (.ladd, 1))  (hq : pc + 1 = q) (kk : z_X G M P Q n T I R k w q ls (.long (x + y) :: st)) : z_X G M P Q n T I R k w pc ls (.long y :: .long x :: st) := by
  subst hq
  intro p e s m args below meth c H locs L Cx hn hH hS hL
  exact lv_ladd Cx.1 Cx.2.1 hd  (kk p e s m args below meth c H locs L Cx hn hH hS hL)
theorem z_lmul {x y : Int64} (hd : decode M.2.1 pc = .ok (.lmul, 1))  (hq : pc + 1 = q) (kk : z_X G M P Q n T I R k w q ls (.long (x * y) :: st)) : z_X G M P Q n T I R k w pc ls (.long y :: .long x :: st) := by
  subst hq
  intro p e s m args below meth c H locs L Cx hn hH hS hL
  exact lv_lmul Cx.1 Cx.2.1 hd  (kk p e s m args below meth c H locs L Cx hn hH hS hL)
theorem z_ldiv {x y : Int64} (hd : decode M.2.1 pc = .ok (.ldiv, 1)) (hne : ¬ y = 0) (hq : pc + 1 = q) (kk : z_X G M P Q n T I R k w q ls (.long (x / y) :: st)) : z_X G M P Q n T I R k w pc ls (.long y :: .long x :: st) := by
  subst hq
  intro p e s m args below meth c H locs L Cx hn hH hS hL
  exact lv_ldiv Cx.1 Cx.2.1 hd hne (kk p e s m args below meth c H locs L Cx hn hH hS hL)
theorem z_i2l {x : Int32} (hd : decode M.2.1 pc = .ok (.i2l, 1))  (hq : pc + 1 = q) (kk : z_X G M P Q n T I R k w q ls (.long x.toInt64 :: st)) : z_X G M P Q n T I R k w pc ls (.int x :: st) := by
  subst hq
  intro p e s m args below meth c H locs L Cx hn hH hS hL
  exact lv_i2l Cx.1 Cx.2.1 hd rfl (kk p e s m args below meth c H locs L Cx hn hH hS hL)
theorem z_l2i {x : Int64} (hd : decode M.2.1 pc = .ok (.l2i, 1))  (hq : pc + 1 = q) (kk : z_X G M P Q n T I R k w q ls (.int x.toInt32 :: st)) : z_X G M P Q n T I R k w pc ls (.long x :: st) := by
  subst hq
  intro p e s m args below meth c H locs L Cx hn hH hS hL
  exact lv_l2i Cx.1 Cx.2.1 hd rfl (kk p e s m args below meth c H locs L Cx hn hH hS hL)
theorem z_i2c {x v : Int32} (hd : decode M.2.1 pc = .ok (.i2c, 1)) (hv : (x.toUInt32 % 65536).toInt32 = v) (hq : pc + 1 = q) (kk : z_X G M P Q n T I R k w q ls (.int v :: st)) : z_X G M P Q n T I R k w pc ls (.int x :: st) := by
  subst hq
  intro p e s m args below meth c H locs L Cx hn hH hS hL
  exact lv_i2c Cx.1 Cx.2.1 hd hv (kk p e s m args below meth c H locs L Cx hn hH hS hL)
theorem z_dup {va : Value} (hd : decode M.2.1 pc = .ok (.dup, 1)) (hva : va.category = 1) (hq : pc + 1 = q) (kk : z_X G M P Q n T I R k w q ls (va :: va :: st)) : z_X G M P Q n T I R k w pc ls (va :: st) := by
  subst hq
  intro p e s m args below meth c H locs L Cx hn hH hS hL
  exact lv_dup Cx.1 Cx.2.1 hd hva (kk p e s m args below meth c H locs L Cx hn hH hS hL)
theorem z_dup_x1 {va vb : Value} (hd : decode M.2.1 pc = .ok (.dup_x1, 1)) (hva : va.category = 1) (hvb : vb.category = 1) (hq : pc + 1 = q) (kk : z_X G M P Q n T I R k w q ls (va :: vb :: va :: st)) : z_X G M P Q n T I R k w pc ls (va :: vb :: st) := by
  subst hq
  intro p e s m args below meth c H locs L Cx hn hH hS hL
  exact lv_dup_x1 Cx.1 Cx.2.1 hd hva hvb (kk p e s m args below meth c H locs L Cx hn hH hS hL)
theorem z_dup2 {va vb : Value} (hd : decode M.2.1 pc = .ok (.dup2, 1)) (hva : va.category = 1) (hvb : vb.category = 1) (hq : pc + 1 = q) (kk : z_X G M P Q n T I R k w q ls (va :: vb :: va :: vb :: st)) : z_X G M P Q n T I R k w pc ls (va :: vb :: st) := by
  subst hq
  intro p e s m args below meth c H locs L Cx hn hH hS hL
  exact lv_dup2_11 Cx.1 Cx.2.1 hd hva hvb (kk p e s m args below meth c H locs L Cx hn hH hS hL)
theorem z_null  (hd : decode M.2.1 pc = .ok (.aconst_null, 1))  (hq : pc + 1 = q) (kk : z_X G M P Q n T I R k w q ls (.null :: st)) : z_X G M P Q n T I R k w pc ls st := by
  subst hq
  intro p e s m args below meth c H locs L Cx hn hH hS hL
  exact lv_null Cx.1 Cx.2.1 hd  (kk p e s m args below meth c H locs L Cx hn hH hS hL)
theorem z_goto {off : Int} (hd : decode M.2.1 pc = .ok (.goto off, 3)) (ht : (pc : Int) + off = (q : Int)) (kk : z_X G M P Q n T I R k w q ls st) : z_X G M P Q n T I R k w pc ls st := by
  intro p e s m args below meth c H locs L Cx hn hH hS hL
  exact lv_goto Cx.1 Cx.2.1 hd ht (kk p e s m args below meth c H locs L Cx hn hH hS hL)
theorem z_if_eq {x : Int32} {off : Int} {tgt : Nat} (hd : decode M.2.1 pc = .ok (.ifCond .eq off, 3)) (ht : (pc : Int) + off = (tgt : Int)) (hq : pc + 3 = q) (kt : x = 0 → z_X G M P Q n T I R k w tgt ls st) (kf : ¬ x = 0 → z_X G M P Q n T I R k w q ls st) : z_X G M P Q n T I R k w pc ls (.int x :: st) := by
  subst hq
  intro p e s m args below meth c H locs L Cx hn hH hS hL
  exact lv_if_eq Cx.1 Cx.2.1 hd ht (fun h => kt h p e s m args below meth c H locs L Cx hn hH hS hL) (fun h => kf h p e s m args below meth c H locs L Cx hn hH hS hL)
theorem z_if_ne {x : Int32} {off : Int} {tgt : Nat} (hd : decode M.2.1 pc = .ok (.ifCond .ne off, 3)) (ht : (pc : Int) + off = (tgt : Int)) (hq : pc + 3 = q) (kt : ¬ x = 0 → z_X G M P Q n T I R k w tgt ls st) (kf : x = 0 → z_X G M P Q n T I R k w q ls st) : z_X G M P Q n T I R k w pc ls (.int x :: st) := by
  subst hq
  intro p e s m args below meth c H locs L Cx hn hH hS hL
  exact lv_if_ne Cx.1 Cx.2.1 hd ht (fun h => kt h p e s m args below meth c H locs L Cx hn hH hS hL) (fun h => kf h p e s m args below meth c H locs L Cx hn hH hS hL)
theorem z_if_lt {x : Int32} {off : Int} {tgt : Nat} (hd : decode M.2.1 pc = .ok (.ifCond .lt off, 3)) (ht : (pc : Int) + off = (tgt : Int)) (hq : pc + 3 = q) (kt : x < 0 → z_X G M P Q n T I R k w tgt ls st) (kf : ¬ x < 0 → z_X G M P Q n T I R k w q ls st) : z_X G M P Q n T I R k w pc ls (.int x :: st) := by
  subst hq
  intro p e s m args below meth c H locs L Cx hn hH hS hL
  exact lv_if_lt Cx.1 Cx.2.1 hd ht (fun h => kt h p e s m args below meth c H locs L Cx hn hH hS hL) (fun h => kf h p e s m args below meth c H locs L Cx hn hH hS hL)
theorem z_if_ge {x : Int32} {off : Int} {tgt : Nat} (hd : decode M.2.1 pc = .ok (.ifCond .ge off, 3)) (ht : (pc : Int) + off = (tgt : Int)) (hq : pc + 3 = q) (kt : 0 ≤ x → z_X G M P Q n T I R k w tgt ls st) (kf : ¬ 0 ≤ x → z_X G M P Q n T I R k w q ls st) : z_X G M P Q n T I R k w pc ls (.int x :: st) := by
  subst hq
  intro p e s m args below meth c H locs L Cx hn hH hS hL
  exact lv_if_ge Cx.1 Cx.2.1 hd ht (fun h => kt h p e s m args below meth c H locs L Cx hn hH hS hL) (fun h => kf h p e s m args below meth c H locs L Cx hn hH hS hL)
theorem z_if_gt {x : Int32} {off : Int} {tgt : Nat} (hd : decode M.2.1 pc = .ok (.ifCond .gt off, 3)) (ht : (pc : Int) + off = (tgt : Int)) (hq : pc + 3 = q) (kt : 0 < x → z_X G M P Q n T I R k w tgt ls st) (kf : ¬ 0 < x → z_X G M P Q n T I R k w q ls st) : z_X G M P Q n T I R k w pc ls (.int x :: st) := by
  subst hq
  intro p e s m args below meth c H locs L Cx hn hH hS hL
  exact lv_if_gt Cx.1 Cx.2.1 hd ht (fun h => kt h p e s m args below meth c H locs L Cx hn hH hS hL) (fun h => kf h p e s m args below meth c H locs L Cx hn hH hS hL)
theorem z_if_le {x : Int32} {off : Int} {tgt : Nat} (hd : decode M.2.1 pc = .ok (.ifCond .le off, 3)) (ht : (pc : Int) + off = (tgt : Int)) (hq : pc + 3 = q) (kt : x ≤ 0 → z_X G M P Q n T I R k w tgt ls st) (kf : ¬ x ≤ 0 → z_X G M P Q n T I R k w q ls st) : z_X G M P Q n T I R k w pc ls (.int x :: st) := by
  subst hq
  intro p e s m args below meth c H locs L Cx hn hH hS hL
  exact lv_if_le Cx.1 Cx.2.1 hd ht (fun h => kt h p e s m args below meth c H locs L Cx hn hH hS hL) (fun h => kf h p e s m args below meth c H locs L Cx hn hH hS hL)
theorem z_icmp_eq {x y : Int32} {off : Int} {tgt : Nat} (hd : decode M.2.1 pc = .ok (.if_icmp .eq off, 3)) (ht : (pc : Int) + off = (tgt : Int)) (hq : pc + 3 = q) (kt : x = y → z_X G M P Q n T I R k w tgt ls st) (kf : ¬ x = y → z_X G M P Q n T I R k w q ls st) : z_X G M P Q n T I R k w pc ls (.int y :: .int x :: st) := by
  subst hq
  intro p e s m args below meth c H locs L Cx hn hH hS hL
  exact lv_icmp_eq Cx.1 Cx.2.1 hd ht (fun h => kt h p e s m args below meth c H locs L Cx hn hH hS hL) (fun h => kf h p e s m args below meth c H locs L Cx hn hH hS hL)
theorem z_icmp_ne {x y : Int32} {off : Int} {tgt : Nat} (hd : decode M.2.1 pc = .ok (.if_icmp .ne off, 3)) (ht : (pc : Int) + off = (tgt : Int)) (hq : pc + 3 = q) (kt : ¬ x = y → z_X G M P Q n T I R k w tgt ls st) (kf : x = y → z_X G M P Q n T I R k w q ls st) : z_X G M P Q n T I R k w pc ls (.int y :: .int x :: st) := by
  subst hq
  intro p e s m args below meth c H locs L Cx hn hH hS hL
  exact lv_icmp_ne Cx.1 Cx.2.1 hd ht (fun h => kt h p e s m args below meth c H locs L Cx hn hH hS hL) (fun h => kf h p e s m args below meth c H locs L Cx hn hH hS hL)
theorem z_icmp_lt {x y : Int32} {off : Int} {tgt : Nat} (hd : decode M.2.1 pc = .ok (.if_icmp .lt off, 3)) (ht : (pc : Int) + off = (tgt : Int)) (hq : pc + 3 = q) (kt : x < y → z_X G M P Q n T I R k w tgt ls st) (kf : ¬ x < y → z_X G M P Q n T I R k w q ls st) : z_X G M P Q n T I R k w pc ls (.int y :: .int x :: st) := by
  subst hq
  intro p e s m args below meth c H locs L Cx hn hH hS hL
  exact lv_icmp_lt Cx.1 Cx.2.1 hd ht (fun h => kt h p e s m args below meth c H locs L Cx hn hH hS hL) (fun h => kf h p e s m args below meth c H locs L Cx hn hH hS hL)
theorem z_icmp_ge {x y : Int32} {off : Int} {tgt : Nat} (hd : decode M.2.1 pc = .ok (.if_icmp .ge off, 3)) (ht : (pc : Int) + off = (tgt : Int)) (hq : pc + 3 = q) (kt : y ≤ x → z_X G M P Q n T I R k w tgt ls st) (kf : ¬ y ≤ x → z_X G M P Q n T I R k w q ls st) : z_X G M P Q n T I R k w pc ls (.int y :: .int x :: st) := by
  subst hq
  intro p e s m args below meth c H locs L Cx hn hH hS hL
  exact lv_icmp_ge Cx.1 Cx.2.1 hd ht (fun h => kt h p e s m args below meth c H locs L Cx hn hH hS hL) (fun h => kf h p e s m args below meth c H locs L Cx hn hH hS hL)
theorem z_icmp_gt {x y : Int32} {off : Int} {tgt : Nat} (hd : decode M.2.1 pc = .ok (.if_icmp .gt off, 3)) (ht : (pc : Int) + off = (tgt : Int)) (hq : pc + 3 = q) (kt : y < x → z_X G M P Q n T I R k w tgt ls st) (kf : ¬ y < x → z_X G M P Q n T I R k w q ls st) : z_X G M P Q n T I R k w pc ls (.int y :: .int x :: st) := by
  subst hq
  intro p e s m args below meth c H locs L Cx hn hH hS hL
  exact lv_icmp_gt Cx.1 Cx.2.1 hd ht (fun h => kt h p e s m args below meth c H locs L Cx hn hH hS hL) (fun h => kf h p e s m args below meth c H locs L Cx hn hH hS hL)
theorem z_icmp_le {x y : Int32} {off : Int} {tgt : Nat} (hd : decode M.2.1 pc = .ok (.if_icmp .le off, 3)) (ht : (pc : Int) + off = (tgt : Int)) (hq : pc + 3 = q) (kt : x ≤ y → z_X G M P Q n T I R k w tgt ls st) (kf : ¬ x ≤ y → z_X G M P Q n T I R k w q ls st) : z_X G M P Q n T I R k w pc ls (.int y :: .int x :: st) := by
  subst hq
  intro p e s m args below meth c H locs L Cx hn hH hS hL
  exact lv_icmp_le Cx.1 Cx.2.1 hd ht (fun h => kt h p e s m args below meth c H locs L Cx hn hH hS hL) (fun h => kf h p e s m args below meth c H locs L Cx hn hH hS hL)
theorem z_icmpn_eq {x y : Int32} {a b : Nat} (hxa : x = nI a) (hyb : y = nI b) (ha : a < 2 ^ 31) (hb : b < 2 ^ 31) {off : Int} {tgt : Nat} (hd : decode M.2.1 pc = .ok (.if_icmp .eq off, 3)) (ht : (pc : Int) + off = (tgt : Int)) (hq : pc + 3 = q) (kt : a = b → z_X G M P Q n T I R k w tgt ls st) (kf : a ≠ b → z_X G M P Q n T I R k w q ls st) : z_X G M P Q n T I R k w pc ls (.int y :: .int x :: st) := by
  subst hxa
  subst hyb
  exact z_icmp_eq hd ht hq (fun h => kt ((nI_eq ha hb).mp h)) (fun h => kf ((fun z => h ((nI_eq ha hb).mpr z))))
theorem z_icmpn_ne {x y : Int32} {a b : Nat} (hxa : x = nI a) (hyb : y = nI b) (ha : a < 2 ^ 31) (hb : b < 2 ^ 31) {off : Int} {tgt : Nat} (hd : decode M.2.1 pc = .ok (.if_icmp .ne off, 3)) (ht : (pc : Int) + off = (tgt : Int)) (hq : pc + 3 = q) (kt : a ≠ b → z_X G M P Q n T I R k w tgt ls st) (kf : a = b → z_X G M P Q n T I R k w q ls st) : z_X G M P Q n T I R k w pc ls (.int y :: .int x :: st) := by
  subst hxa
  subst hyb
  exact z_icmp_ne hd ht hq (fun h => kt ((fun z => h ((nI_eq ha hb).mpr z)))) (fun h => kf ((nI_eq ha hb).mp h))
theorem z_icmpn_lt {x y : Int32} {a b : Nat} (hxa : x = nI a) (hyb : y = nI b) (ha : a < 2 ^ 31) (hb : b < 2 ^ 31) {off : Int} {tgt : Nat} (hd : decode M.2.1 pc = .ok (.if_icmp .lt off, 3)) (ht : (pc : Int) + off = (tgt : Int)) (hq : pc + 3 = q) (kt : a < b → z_X G M P Q n T I R k w tgt ls st) (kf : b ≤ a → z_X G M P Q n T I R k w q ls st) : z_X G M P Q n T I R k w pc ls (.int y :: .int x :: st) := by
  subst hxa
  subst hyb
  exact z_icmp_lt hd ht hq (fun h => kt ((nI_ltI ha hb).mp h)) (fun h => kf ((Nat.not_lt.mp fun z => h ((nI_ltI ha hb).mpr z))))
theorem z_icmpn_ge {x y : Int32} {a b : Nat} (hxa : x = nI a) (hyb : y = nI b) (ha : a < 2 ^ 31) (hb : b < 2 ^ 31) {off : Int} {tgt : Nat} (hd : decode M.2.1 pc = .ok (.if_icmp .ge off, 3)) (ht : (pc : Int) + off = (tgt : Int)) (hq : pc + 3 = q) (kt : b ≤ a → z_X G M P Q n T I R k w tgt ls st) (kf : a < b → z_X G M P Q n T I R k w q ls st) : z_X G M P Q n T I R k w pc ls (.int y :: .int x :: st) := by
  subst hxa
  subst hyb
  exact z_icmp_ge hd ht hq (fun h => kt ((nI_leI hb ha).mp h)) (fun h => kf ((Nat.not_le.mp fun z => h ((nI_leI hb ha).mpr z))))
theorem z_icmpn_gt {x y : Int32} {a b : Nat} (hxa : x = nI a) (hyb : y = nI b) (ha : a < 2 ^ 31) (hb : b < 2 ^ 31) {off : Int} {tgt : Nat} (hd : decode M.2.1 pc = .ok (.if_icmp .gt off, 3)) (ht : (pc : Int) + off = (tgt : Int)) (hq : pc + 3 = q) (kt : b < a → z_X G M P Q n T I R k w tgt ls st) (kf : a ≤ b → z_X G M P Q n T I R k w q ls st) : z_X G M P Q n T I R k w pc ls (.int y :: .int x :: st) := by
  subst hxa
  subst hyb
  exact z_icmp_gt hd ht hq (fun h => kt ((nI_ltI hb ha).mp h)) (fun h => kf ((Nat.not_lt.mp fun z => h ((nI_ltI hb ha).mpr z))))
theorem z_icmpn_le {x y : Int32} {a b : Nat} (hxa : x = nI a) (hyb : y = nI b) (ha : a < 2 ^ 31) (hb : b < 2 ^ 31) {off : Int} {tgt : Nat} (hd : decode M.2.1 pc = .ok (.if_icmp .le off, 3)) (ht : (pc : Int) + off = (tgt : Int)) (hq : pc + 3 = q) (kt : a ≤ b → z_X G M P Q n T I R k w tgt ls st) (kf : b < a → z_X G M P Q n T I R k w q ls st) : z_X G M P Q n T I R k w pc ls (.int y :: .int x :: st) := by
  subst hxa
  subst hyb
  exact z_icmp_le hd ht hq (fun h => kt ((nI_leI ha hb).mp h)) (fun h => kf ((Nat.not_le.mp fun z => h ((nI_leI ha hb).mpr z))))
theorem z_ifnull {x : Nat} {off : Int} (hd : decode M.2.1 pc = .ok (.ifnull off, 3)) (hq : pc + 3 = q) (kk : z_X G M P Q n T I R k w q ls st) : z_X G M P Q n T I R k w pc ls (.ref x :: st) := by
  subst hq
  intro p e s m args below meth c H locs L Cx hn hH hS hL
  exact lv_ifnull Cx.1 Cx.2.1 hd (kk p e s m args below meth c H locs L Cx hn hH hS hL)
theorem z_ifnullN {off : Int} (hd : decode M.2.1 pc = .ok (.ifnull off, 3)) (ht : (pc : Int) + off = (q : Int)) (kk : z_X G M P Q n T I R k w q ls st) : z_X G M P Q n T I R k w pc ls (.null :: st) := by
  intro p e s m args below meth c H locs L Cx hn hH hS hL
  exact lv_ifnullN Cx.1 Cx.2.1 hd ht (kk p e s m args below meth c H locs L Cx hn hH hS hL)
theorem z_ifnonnull {x : Nat} {off : Int} (hd : decode M.2.1 pc = .ok (.ifnonnull off, 3)) (ht : (pc : Int) + off = (q : Int)) (kk : z_X G M P Q n T I R k w q ls st) : z_X G M P Q n T I R k w pc ls (.ref x :: st) := by
  intro p e s m args below meth c H locs L Cx hn hH hS hL
  exact lv_ifnonnull Cx.1 Cx.2.1 hd ht (kk p e s m args below meth c H locs L Cx hn hH hS hL)
theorem z_ifnonnullN {off : Int} (hd : decode M.2.1 pc = .ok (.ifnonnull off, 3)) (hq : pc + 3 = q) (kk : z_X G M P Q n T I R k w q ls st) : z_X G M P Q n T I R k w pc ls (.null :: st) := by
  subst hq
  intro p e s m args below meth c H locs L Cx hn hH hS hL
  exact lv_ifnonnullN Cx.1 Cx.2.1 hd (kk p e s m args below meth c H locs L Cx hn hH hS hL)
theorem z_tableOut {dflt lo hi : Int} {offs : Array Int} {len : Nat} {x : Int32} {tgt : Nat} (hd : decode M.2.1 pc = .ok (.tableswitch dflt lo hi offs, len)) (h : x.toInt < lo ∨ hi < x.toInt) (ht : (pc : Int) + dflt = (tgt : Int)) (kk : z_X G M P Q n T I R k w tgt ls st) : z_X G M P Q n T I R k w pc ls (.int x :: st) := by
  intro p e s m args below meth c H locs L Cx hn hH hS hL
  exact lv_tableOut Cx.1 Cx.2.1 hd h ht (kk p e s m args below meth c H locs L Cx hn hH hS hL)
theorem z_tableIn {dflt lo hi : Int} {offs : Array Int} {len : Nat} {x : Int32} {off : Int} {tgt : Nat} (hd : decode M.2.1 pc = .ok (.tableswitch dflt lo hi offs, len)) (h1 : ¬ x.toInt < lo) (h2 : ¬ hi < x.toInt) (ho : offs[(x.toInt - lo).toNat]? = some off) (ht : (pc : Int) + off = (tgt : Int)) (kk : z_X G M P Q n T I R k w tgt ls st) : z_X G M P Q n T I R k w pc ls (.int x :: st) := by
  intro p e s m args below meth c H locs L Cx hn hH hS hL
  exact lv_tableIn Cx.1 Cx.2.1 hd h1 h2 ho ht (kk p e s m args below meth c H locs L Cx hn hH hS hL)
theorem z_ldc {index i : Nat} {v : Int32} (h1 : M.2.2.2.1[i]? = some (Cond.constant M.1 index v)) (hd : decode M.2.1 pc = .ok (.ldc index, 2)) (hq : pc + 2 = q) (kk : z_X G M P Q n T I R k w q ls (.int v :: st)) : z_X G M P Q n T I R k w pc ls st := by
  subst hq
  intro p e s m args below meth c H locs L Cx hn hH hS hL
  exact lv_ldc Cx.1 Cx.2.1 Cx.2.2.2.1 (Cx.2.2.2.2.1 _ (List.mem_of_getElem? h1)) hd (kk p e s m args below meth c H locs L Cx hn hH hS hL)
theorem z_ldc2 {index i : Nat} {v : Int64} (h1 : M.2.2.2.1[i]? = some (Cond.constantLong M.1 index v)) (hd : decode M.2.1 pc = .ok (.ldc2_w index, 3)) (hq : pc + 3 = q) (kk : z_X G M P Q n T I R k w q ls (.long v :: st)) : z_X G M P Q n T I R k w pc ls st := by
  subst hq
  intro p e s m args below meth c H locs L Cx hn hH hS hL
  exact lv_ldc2 Cx.1 Cx.2.1 Cx.2.2.2.1 (Cx.2.2.2.2.1 _ (List.mem_of_getElem? h1)) hd (kk p e s m args below meth c H locs L Cx hn hH hS hL)
theorem z_pick (ks : List Nat) (h : lv_pick ls ks = ls') (kk : z_X G M P Q n T I R k w pc ls' st) : z_X G M P Q n T I R k w pc ls st := by
  intro p e s m args below meth c H locs L Cx hn hH hS hL
  exact kk p e s m args below meth c H locs L Cx hn hH hS (lv_sub hL ks h)
theorem z_H_upd {D : va_G} {n0 : Nat} {T : zTT} {I I' : zII} {R R' : zRR} {U : State} {H H1 : Heap} {a : Nat} {t : zTy} (hH : z_H D n0 T I R U H) (hT : T a = some t) (hI : ∀ a', a' ≠ a → I' a' = I a') (hR : ∀ a', a' ≠ a → R' a' = R a') (hnew : z_at D U H1 a t (z_val t (I' a) (R' a))) (oq : ∀ q : Nat, q ≠ a → H1[q]? = H[q]?) : z_H D n0 T I' R' U H1 := by
  intro a' t' h'
  by_cases e : a' = a
  · subst e
    rw [hT] at h'
    cases h'
    exact ⟨(hH _ _ hT).1, hnew⟩
  · rw [hI a' e, hR a' e]
    exact ⟨(hH a' t' h').1, ((hH a' t' h').2).kept (oq a' e)⟩
theorem z_H_new {D : va_G} {n0 : Nat} {T : zTT} {I I' : zII} {R R' : zRR} {U : State} {H H1 : Heap} {t : zTy} {n : Nat} (hH : z_H D n0 T I R U H) (hn : H.size = n) (hz : n0 ≤ n) (hI : ∀ a', a' ≠ n → I' a' = I a') (hR : ∀ a', a' ≠ n → R' a' = R a') (hnew : z_at D U H1 n t (z_val t (I' n) (R' n))) (oq : ∀ q : Nat, q < n → H1[q]? = H[q]?) : z_H D n0 (zN T n (some t)) I' R' U H1 := by
  intro a' t' h'
  by_cases e : a' = n
  · subst e
    rw [zN_s] at h'
    cases h'
    exact ⟨hz, hnew⟩
  · rw [zN_n _ _ e] at h'
    rw [hI a' e, hR a' e]
    have h2 := (hH a' t' h').2
    exact ⟨(hH a' t' h').1, h2.kept (oq a' (by have := h2.lt; omega))⟩
theorem z_getI {a : Nat}  {C : String} {TT : u_T} {N index : Nat} (ci kf i j : Nat) (hcl : vwCl[ci]? = some (C, TT, N)) (hk : kf < N) (h1 : M.2.2.2.1[i]? = some (.fieldLink M.1 index (TT kf).1 (TT kf).2.1 (TT kf).2.2.1)) (h2 : M.2.2.2.1[j]? = some (u_lay C TT kf)) (href : z_ref (.inl ci) kf = false) (hT : T a = some (.inl ci))  (hd : decode M.2.1 pc = .ok (.getfield index, 3)) (hq : pc + 3 = q) (kk : z_X G M P Q n T I R k w q ls (.int (I a kf) :: st)) : z_X G M P Q n T I R k w pc ls (.ref a :: st) := by
  subst hq
  intro p e s m args below meth c H locs L Cx hn hH hS hL
  obtain ⟨hx, hb, hml, hown, hts, hr, hlk, hin, hK, hz⟩ := id Cx
  obtain ⟨hna, r, hr1, cell, q1, q2, q3, q4⟩ := hH a _ hT
  cases hr1.symm.trans hcl
  obtain ⟨hSl, hfc, kC, hkC, hkind⟩ := hK.1.1 ci _ hcl
  obtain ⟨cf, kfd, fi, f, hi, hsl⟩ := hSl kf hk
  have hlink := hts _ (List.mem_of_getElem? h1)
  have hlay := hts _ (List.mem_of_getElem? h2)
  have hlays : (Cond.lays C (TT kf).1 (TT kf).2.1 (TT kf).2.2.1).before args s = true ∨ (Cond.laysFinal C (TT kf).1 (TT kf).2.1 (TT kf).2.2.1).before args s = true := by
    unfold u_lay at hlay
    split at hlay
    · exact Or.inr hlay
    · exact Or.inl hlay
  refine W.getf hx hb hown hlink hi (u_facts hfc hkC hlays hi).1 q1 (by rw [q3]; exact fun h => by cases h) (v := .int (I a kf)) ?_ rfl rfl hd (kk p e s m args below meth c H locs L Cx hn hH hS hL)
  rw [hsl, q4 kf hk]
  simp [z_val, href]
theorem z_getR {a : Nat} {b : Nat} {C : String} {TT : u_T} {N index : Nat} (ci kf i j : Nat) (hcl : vwCl[ci]? = some (C, TT, N)) (hk : kf < N) (h1 : M.2.2.2.1[i]? = some (.fieldLink M.1 index (TT kf).1 (TT kf).2.1 (TT kf).2.2.1)) (h2 : M.2.2.2.1[j]? = some (u_lay C TT kf)) (href : z_ref (.inl ci) kf = true) (hT : T a = some (.inl ci)) (hR : R a kf = some b) (hd : decode M.2.1 pc = .ok (.getfield index, 3)) (hq : pc + 3 = q) (kk : z_X G M P Q n T I R k w q ls (.ref b :: st)) : z_X G M P Q n T I R k w pc ls (.ref a :: st) := by
  subst hq
  intro p e s m args below meth c H locs L Cx hn hH hS hL
  obtain ⟨hx, hb, hml, hown, hts, hr, hlk, hin, hK, hz⟩ := id Cx
  obtain ⟨hna, r, hr1, cell, q1, q2, q3, q4⟩ := hH a _ hT
  cases hr1.symm.trans hcl
  obtain ⟨hSl, hfc, kC, hkC, hkind⟩ := hK.1.1 ci _ hcl
  obtain ⟨cf, kfd, fi, f, hi, hsl⟩ := hSl kf hk
  have hlink := hts _ (List.mem_of_getElem? h1)
  have hlay := hts _ (List.mem_of_getElem? h2)
  have hlays : (Cond.lays C (TT kf).1 (TT kf).2.1 (TT kf).2.2.1).before args s = true ∨ (Cond.laysFinal C (TT kf).1 (TT kf).2.1 (TT kf).2.2.1).before args s = true := by
    unfold u_lay at hlay
    split at hlay
    · exact Or.inr hlay
    · exact Or.inl hlay
  refine W.getf hx hb hown hlink hi (u_facts hfc hkC hlays hi).1 q1 (by rw [q3]; exact fun h => by cases h) (v := .ref b) ?_ rfl rfl hd (kk p e s m args below meth c H locs L Cx hn hH hS hL)
  rw [hsl, q4 kf hk]
  simp [z_val, href, hR, va_rf]
theorem z_getV {a : Nat} {v : Int32} {C : String} {TT : u_T} {N index : Nat} (ci kf i j : Nat) (hcl : vwCl[ci]? = some (C, TT, N)) (hk : kf < N) (h1 : M.2.2.2.1[i]? = some (.fieldLink M.1 index (TT kf).1 (TT kf).2.1 (TT kf).2.2.1)) (h2 : M.2.2.2.1[j]? = some (u_lay C TT kf)) (href : z_ref (.inl ci) kf = false) (hT : T a = some (.inl ci)) (hv : I a kf = v) (hd : decode M.2.1 pc = .ok (.getfield index, 3)) (hq : pc + 3 = q) (kk : z_X G M P Q n T I R k w q ls (.int v :: st)) : z_X G M P Q n T I R k w pc ls (.ref a :: st) := by
  subst hq
  intro p e s m args below meth c H locs L Cx hn hH hS hL
  obtain ⟨hx, hb, hml, hown, hts, hr, hlk, hin, hK, hz⟩ := id Cx
  obtain ⟨hna, r, hr1, cell, q1, q2, q3, q4⟩ := hH a _ hT
  cases hr1.symm.trans hcl
  obtain ⟨hSl, hfc, kC, hkC, hkind⟩ := hK.1.1 ci _ hcl
  obtain ⟨cf, kfd, fi, f, hi, hsl⟩ := hSl kf hk
  have hlink := hts _ (List.mem_of_getElem? h1)
  have hlay := hts _ (List.mem_of_getElem? h2)
  have hlays : (Cond.lays C (TT kf).1 (TT kf).2.1 (TT kf).2.2.1).before args s = true ∨ (Cond.laysFinal C (TT kf).1 (TT kf).2.1 (TT kf).2.2.1).before args s = true := by
    unfold u_lay at hlay
    split at hlay
    · exact Or.inr hlay
    · exact Or.inl hlay
  refine W.getf hx hb hown hlink hi (u_facts hfc hkC hlays hi).1 q1 (by rw [q3]; exact fun h => by cases h) (v := .int v) ?_ rfl rfl hd (kk p e s m args below meth c H locs L Cx hn hH hS hL)
  rw [hsl, q4 kf hk]
  simp [z_val, href, hv]
theorem z_put {a : Nat} {x : Int32} {ty : FieldType} {C : String} {TT : u_T} {N index : Nat} (ci kf i j : Nat) (hcl : vwCl[ci]? = some (C, TT, N)) (hk : kf < N) (h1 : M.2.2.2.1[i]? = some (.fieldLink M.1 index (TT kf).1 (TT kf).2.1 (TT kf).2.2.1)) (h2 : M.2.2.2.1[j]? = some (.lays C (TT kf).1 (TT kf).2.1 (TT kf).2.2.1)) (hty : parseFieldDescriptor (TT kf).2.2.1 = some ty) (hnr : narrow ty (.int x) = .int x) (hfit : fits ty (.int x) = true) (href : z_ref (.inl ci) kf = false) (hT : T a = some (.inl ci)) (hd : decode M.2.1 pc = .ok (.putfield index, 3)) (hq : pc + 3 = q) (kk : z_X G M P Q n T (zw I a kf x) R k w q ls st) : z_X G M P Q n T I R k w pc ls (.int x :: .ref a :: st) := by
  subst hq
  intro p e s m args below meth c H locs L Cx hn hH hS hL
  obtain ⟨hx, hb, hml, hown, hts, hr, hlk, hin, hK, hz⟩ := id Cx
  obtain ⟨hna, r, hr1, cell, q1, q2, q3, q4⟩ := hH a _ hT
  cases hr1.symm.trans hcl
  obtain ⟨hSl, hfc, kC, hkC, hkind⟩ := hK.1.1 ci _ hcl
  obtain ⟨cf, kfd, fi, f, hi, hsl⟩ := hSl kf hk
  have hlink := hts _ (List.mem_of_getElem? h1)
  have hlay := hts _ (List.mem_of_getElem? h2)
  have hap := hK.2.1 ci _ hcl
  have h6 := u_store hfc hkC hkind hlay hi hty hnr hfit
  refine W.putK hx hb (f := f) ⟨hown, hlink, ⟨_, _, _, hi⟩, (u_facts hfc hkC (Or.inl hlay) hi).1⟩ (by rw [q2]; exact h6) q1 q3 (by rw [hsl]; exact k2_hasslot (q4 kf hk)) rfl rfl hd fun H1 e1 e2 e3 => ?_
  rw [hsl] at e1 ⊢
  refine kk p e s m args below meth c H1 _ L Cx (e2.trans hn) (z_H_upd hH hT (fun a' h => zw_row I x h) (fun _ _ => rfl) ?_ e3) (hS.put e2 e3 hna) hL
  refine ⟨_, hcl, t_OB.to (V := updV (z_val (.inl ci) (I a) (R a)) kf (.int x)) ⟨_, e1, q2, q3, t_set q4 hap hk (.int x)⟩ (fun j _ => ?_)⟩
  by_cases hj : j = kf
  · subst hj
    simp [updV, z_val, href, zw_s]
  · simp [updV, z_val, hj, zw_k]
theorem z_putF {a b : Nat} {ty : FieldType} {C : String} {TT : u_T} {N index : Nat} (ci kf i j : Nat) (hcl : vwCl[ci]? = some (C, TT, N)) (hk : kf < N) (h1 : M.2.2.2.1[i]? = some (.fieldLink M.1 index (TT kf).1 (TT kf).2.1 (TT kf).2.2.1)) (h2 : M.2.2.2.1[j]? = some (.laysFinal C (TT kf).1 (TT kf).2.1 (TT kf).2.2.1)) (hty : parseFieldDescriptor (TT kf).2.2.1 = some ty) (hnr : narrow ty (.ref b) = .ref b) (hfit : fits ty (.ref b) = true) (href : z_ref (.inl ci) kf = true) (hini : M.2.2.2.2.2 = true) (hdecl : (TT kf).1 = M.1) (hT : T a = some (.inl ci)) (hd : decode M.2.1 pc = .ok (.putfield index, 3)) (hq : pc + 3 = q) (kk : z_X G M P Q n T I (zw R a kf (some b)) k w q ls st) : z_X G M P Q n T I R k w pc ls (.ref b :: .ref a :: st) := by
  subst hq
  intro p e s m args below meth c H locs L Cx hn hH hS hL
  obtain ⟨hx, hb, hml, hown, hts, hr, hlk, hin, hK, hz⟩ := id Cx
  obtain ⟨hna, r, hr1, cell, q1, q2, q3, q4⟩ := hH a _ hT
  cases hr1.symm.trans hcl
  obtain ⟨hSl, hfc, kC, hkC, hkind⟩ := hK.1.1 ci _ hcl
  obtain ⟨cf, kfd, fi, f, hi, hsl⟩ := hSl kf hk
  have hlink := hts _ (List.mem_of_getElem? h1)
  have hlay := hts _ (List.mem_of_getElem? h2)
  have hap := hK.2.1 ci _ hcl
  have hcf : m.cls = cf := by
    obtain ⟨_, _, c', _, _, _, -, -, hf', -, -, -, hown2, -⟩ := Cond.laysFinal_spec hlay
    have e1 : c' = cf := by have := hi.symm.trans hf'; simp at this; exact this.1.symm
    rw [hdecl] at hown2
    rw [← e1]; exact Option.some.inj (hown.symm.trans hown2)
  have h6 := u_fits hfc hkC hkind (Or.inr hlay) hi hty hnr hfit
  refine W.putFinK hx hb hown hlink hi (u_facts hfc hkC (Or.inr hlay) hi).1 hcf (hin hini) (by rw [q2]; exact h6) q1 q3 (by rw [hsl]; exact k2_hasslot (q4 kf hk)) rfl rfl hd fun H1 e1 e2 e3 => ?_
  rw [hsl] at e1 ⊢
  refine kk p e s m args below meth c H1 _ L Cx (e2.trans hn) (z_H_upd hH hT (fun _ _ => rfl) (fun a' h => zw_row R (some b) h) ?_ e3) (hS.put e2 e3 hna) hL
  refine ⟨_, hcl, t_OB.to (V := updV (z_val (.inl ci) (I a) (R a)) kf (.ref b)) ⟨_, e1, q2, q3, t_set q4 hap hk (.ref b)⟩ (fun j _ => ?_)⟩
  by_cases hj : j = kf
  · subst hj
    simp [updV, z_val, href, zw_s, va_rf]
  · simp [updV, z_val, hj, zw_k]
theorem z_iald {a len : Nat} {x : Int32}  (j : Nat) (hT : T a = some (.inr (.int, len))) (hj : x = nI j) (hlt : j < len) (hln : len < 2 ^ 31)  (hd : decode M.2.1 pc = .ok (.iaload, 1)) (hq : pc + 1 = q) (kk : z_X G M P Q n T I R k w q ls (.int (I a j) :: st)) : z_X G M P Q n T I R k w pc ls (.int x :: .ref a :: st) := by
  subst hq
  subst hj
  intro p e s m args below meth c H locs L Cx hn hH hS hL
  obtain ⟨hx, hb, hml, hown, hts, hr, hlk, hin, hK, hz⟩ := id Cx
  obtain ⟨hna, cA, q1, q2, q3⟩ := hH a _ hT
  have hvin : vp_in (nI j) len := nI_in hlt hln
  have hcl : (nI j).toNatClampNeg = j := nI_clamp (Nat.lt_trans hlt hln)
  refine W.iald (v := .int (I a j))  hx hb q1 (q2 len _) (fun q => by cases q) (by rw [arrV_size]; exact hvin) ?_ rfl rfl hd (kk p e s m args below meth c H locs L Cx hn hH hS hL)
  rw [hcl, arrV_read _ _ hlt]
  rfl
theorem z_ialdV {a len : Nat} {x : Int32} {v : Int32} (j : Nat) (hT : T a = some (.inr (.int, len))) (hj : x = nI j) (hlt : j < len) (hln : len < 2 ^ 31) (hv : I a j = v) (hd : decode M.2.1 pc = .ok (.iaload, 1)) (hq : pc + 1 = q) (kk : z_X G M P Q n T I R k w q ls (.int v :: st)) : z_X G M P Q n T I R k w pc ls (.int x :: .ref a :: st) := by
  subst hq
  subst hj
  intro p e s m args below meth c H locs L Cx hn hH hS hL
  obtain ⟨hx, hb, hml, hown, hts, hr, hlk, hin, hK, hz⟩ := id Cx
  obtain ⟨hna, cA, q1, q2, q3⟩ := hH a _ hT
  have hvin : vp_in (nI j) len := nI_in hlt hln
  have hcl : (nI j).toNatClampNeg = j := nI_clamp (Nat.lt_trans hlt hln)
  refine W.iald (v := .int v)  hx hb q1 (q2 len _) (fun q => by cases q) (by rw [arrV_size]; exact hvin) ?_ rfl rfl hd (kk p e s m args below meth c H locs L Cx hn hH hS hL)
  rw [hcl, arrV_read _ _ hlt]
  rw [← hv]; rfl
theorem z_cald {a len : Nat} {x : Int32}  (j : Nat) (hT : T a = some (.inr (.char, len))) (hj : x = nI j) (hlt : j < len) (hln : len < 2 ^ 31)  (hd : decode M.2.1 pc = .ok (.caload, 1)) (hq : pc + 1 = q) (kk : z_X G M P Q n T I R k w q ls (.int (I a j) :: st)) : z_X G M P Q n T I R k w pc ls (.int x :: .ref a :: st) := by
  subst hq
  subst hj
  intro p e s m args below meth c H locs L Cx hn hH hS hL
  obtain ⟨hx, hb, hml, hown, hts, hr, hlk, hin, hK, hz⟩ := id Cx
  obtain ⟨hna, cA, q1, q2, q3⟩ := hH a _ hT
  have hvin : vp_in (nI j) len := nI_in hlt hln
  have hcl : (nI j).toNatClampNeg = j := nI_clamp (Nat.lt_trans hlt hln)
  refine W.cald (v := .int (I a j))  hx hb q1 (q2 len _) (fun q => by cases q) (by rw [arrV_size]; exact hvin) ?_ rfl rfl hd (kk p e s m args below meth c H locs L Cx hn hH hS hL)
  rw [hcl, arrV_read _ _ hlt]
  rfl
theorem z_aald {a len : Nat} {x : Int32} {E : String} {b : Nat} (j : Nat) (hT : T a = some (.inr (.object E, len))) (hj : x = nI j) (hlt : j < len) (hln : len < 2 ^ 31) (hR : R a j = some b) (hd : decode M.2.1 pc = .ok (.aaload, 1)) (hq : pc + 1 = q) (kk : z_X G M P Q n T I R k w q ls (.ref b :: st)) : z_X G M P Q n T I R k w pc ls (.int x :: .ref a :: st) := by
  subst hq
  subst hj
  intro p e s m args below meth c H locs L Cx hn hH hS hL
  obtain ⟨hx, hb, hml, hown, hts, hr, hlk, hin, hK, hz⟩ := id Cx
  obtain ⟨hna, cA, q1, q2, q3⟩ := hH a _ hT
  have hvin : vp_in (nI j) len := nI_in hlt hln
  have hcl : (nI j).toNatClampNeg = j := nI_clamp (Nat.lt_trans hlt hln)
  refine W.aald (v := .ref b) (ty := .object E) hx hb q1 (q2 len _) rfl (fun q => by cases q) (by rw [arrV_size]; exact hvin) ?_ rfl rfl hd (kk p e s m args below meth c H locs L Cx hn hH hS hL)
  rw [hcl, arrV_read _ _ hlt]
  simp [z_val, z_ref, hR, va_rf]
theorem z_iast {a len : Nat} {x v : Int32} (j : Nat) (hT : T a = some (.inr (.int, len))) (hj : x = nI j) (hlt : j < len) (hln : len < 2 ^ 31)  (hd : decode M.2.1 pc = .ok (.iastore, 1)) (hq : pc + 1 = q) (kk : z_X G M P Q n T (zw I a j v) R k w q ls st) : z_X G M P Q n T I R k w pc ls (.int v :: .int x :: .ref a :: st) := by
  subst hq
  subst hj
  intro p e s m args below meth c H locs L Cx hn hH hS hL
  obtain ⟨hx, hb, hml, hown, hts, hr, hlk, hin, hK, hz⟩ := id Cx
  obtain ⟨hna, cA, q1, q2, q3⟩ := hH a _ hT
  have hvin : vp_in (nI j) len := nI_in hlt hln
  have hcl : (nI j).toNatClampNeg = j := nI_clamp (Nat.lt_trans hlt hln)
  refine W.iast hx hb q1 (q2 len _) (fun q => by cases q) (by rw [arrV_size]; exact hvin) rfl rfl hd fun H1 e1 e2 e3 => ?_
  rw [hcl] at e1 ⊢
  rw [arrV_store] at e1
  refine kk p e s m args below meth c H1 _ L Cx (e2.trans hn) (z_H_upd hH hT (fun a' h => zw_row I v h) (fun _ _ => rfl) ?_ e3) (hS.put e2 e3 hna) hL
  refine ⟨cA, ?_, q2, q3⟩
  rw [e1]
  refine congrArg (fun z => some (arrV cA len z)) ?_
  funext y
  by_cases hy : y = j
  · subst hy
    simp [updV, z_val, z_ref, zw_s]
  · simp [updV, z_val, z_ref, hy, zw_k]
theorem z_cast {a len : Nat} {x v : Int32} (j : Nat) (hT : T a = some (.inr (.char, len))) (hj : x = nI j) (hlt : j < len) (hln : len < 2 ^ 31) (hnr : narrow .char (.int v) = .int v) (hd : decode M.2.1 pc = .ok (.castore, 1)) (hq : pc + 1 = q) (kk : z_X G M P Q n T (zw I a j v) R k w q ls st) : z_X G M P Q n T I R k w pc ls (.int v :: .int x :: .ref a :: st) := by
  subst hq
  subst hj
  intro p e s m args below meth c H locs L Cx hn hH hS hL
  obtain ⟨hx, hb, hml, hown, hts, hr, hlk, hin, hK, hz⟩ := id Cx
  obtain ⟨hna, cA, q1, q2, q3⟩ := hH a _ hT
  have hvin : vp_in (nI j) len := nI_in hlt hln
  have hcl : (nI j).toNatClampNeg = j := nI_clamp (Nat.lt_trans hlt hln)
  refine W.cast hx hb q1 (q2 len _) (fun q => by cases q) (by rw [arrV_size]; exact hvin) rfl rfl hd fun H1 e1 e2 e3 => ?_
  rw [hcl] at e1 ⊢
  rw [hnr, arrV_store] at e1
  refine kk p e s m args below meth c H1 _ L Cx (e2.trans hn) (z_H_upd hH hT (fun a' h => zw_row I v h) (fun _ _ => rfl) ?_ e3) (hS.put e2 e3 hna) hL
  refine ⟨cA, ?_, q2, q3⟩
  rw [e1]
  refine congrArg (fun z => some (arrV cA len z)) ?_
  funext y
  by_cases hy : y = j
  · subst hy
    simp [updV, z_val, z_ref, zw_s]
  · simp [updV, z_val, z_ref, hy, zw_k]
theorem z_aast {a len b ci : Nat} {r : vw_C} {x : Int32} (j : Nat) (hT : T a = some (.inr (.object r.1, len))) (hc : vwCl[ci]? = some r) (hTb : T b = some (.inl ci)) (hj : x = nI j) (hlt : j < len) (hln : len < 2 ^ 31) (hd : decode M.2.1 pc = .ok (.aastore, 1)) (hq : pc + 1 = q) (kk : z_X G M P Q n T I (zw R a j (some b)) k w q ls st) : z_X G M P Q n T I R k w pc ls (.ref b :: .int x :: .ref a :: st) := by
  subst hq
  subst hj
  intro p e s m args below meth c H locs L Cx hn hH hS hL
  obtain ⟨hx, hb, hml, hown, hts, hr, hlk, hin, hK, hz⟩ := id Cx
  obtain ⟨hna, cA, q1, q2, q3⟩ := hH a _ hT
  have hvin : vp_in (nI j) len := nI_in hlt hln
  have hcl : (nI j).toNatClampNeg = j := nI_clamp (Nat.lt_trans hlt hln)
  have h0 : ¬ nI j < 0 := fun z => hvin (Or.inl z)
  obtain ⟨hnb, r', hr', cellV, g1, g2, g3, -⟩ := hH b _ hTb
  have hcls := (hK.1.1 ci r hc).2
  obtain ⟨kA, comp, k1, k2, k3, k4⟩ := q3
  have hcomp : comp = G.2.1.1 ci := Option.some.inj (k3.symm.trans hcls.1)
  subst hcomp
  obtain ⟨kC, hkC, -⟩ := id hcls.2
  refine W.aast hx hb q1 (fun q h => by cases h) (fun h => by cases h) k1 k2 rfl hkC ⟨h0, by rw [hcl]; show _ < (arrV _ _ _).slots.size; rw [arrV_size]; exact hlt⟩ g1 (fun q h => by rw [g3] at h; cases h) (by rw [g2]; exact hkC) (by rw [g2]; exact va_assign hcls) rfl rfl hd fun H1 e1 e2 e3 => ?_
  rw [hcl] at e1 ⊢
  rw [arrV_store] at e1
  refine kk p e s m args below meth c H1 _ L Cx (e2.trans hn) (z_H_upd hH hT (fun _ _ => rfl) (fun a' h => zw_row R (some b) h) ?_ e3) (hS.put e2 e3 hna) hL
  refine ⟨cA, ?_, q2, kA, _, k1, k2, k3, k4⟩
  rw [e1]
  refine congrArg (fun z => some (arrV cA len z)) ?_
  funext y
  by_cases hy : y = j
  · subst hy
    simp [updV, z_val, z_ref, zw_s, va_rf]
  · simp [updV, z_val, z_ref, hy, zw_k]
theorem z_alen {a len : Nat} {ty : FieldType} (hT : T a = some (.inr (ty, len))) (hd : decode M.2.1 pc = .ok (.arraylength, 1)) (hq : pc + 1 = q) (kk : z_X G M P Q n T I R k w q ls (.int (nI len) :: st)) : z_X G M P Q n T I R k w pc ls (.ref a :: st) := by
  subst hq
  intro p e s m args below meth c H locs L Cx hn hH hS hL
  obtain ⟨hna, cA, q1, q2, q3⟩ := hH a _ hT
  exact W.alen (n := nI len) Cx.1 Cx.2.1 q1 (q2 len _) (by rw [arrV_size] <;> rfl) rfl rfl hd (kk p e s m args below meth c H locs L Cx hn hH hS hL)
theorem z_iret {v : Int32} (hr : M.2.2.2.2.1 = some .int) (hd : decode M.2.1 pc = .ok (.ireturn, 1)) (hkc : k ≤ P.2.1) (hws : w ≤ P.2.2) (hQ : Q (some (.int v)) n T I R) : z_X G M P Q n T I R k w pc ls [.int v] := by
  intro p e s m args below meth c H locs L Cx hn hH hS hL
  refine W.widen (k := P.2.1) (n := P.2.2) hkc hws ?_
  exact W.iret Cx.1 Cx.2.1 (Cx.2.2.2.2.2.1.trans hr) (fun t ht hW => ⟨⟨(some (.int v)), n, T, I, R, rfl, by rw [ht]; exact hn, by rw [ht]; exact hH.moved hW.alike, hQ⟩, hS.F ht⟩) hS.2.2 hd Cx.2.2.2.2.2.2.1
theorem z_zret {v : Int32} {ty : FieldType} (hr : M.2.2.2.2.1 = some ty) (hnr : narrow ty (.int v) = .int v) (hd : decode M.2.1 pc = .ok (.ireturn, 1)) (hkc : k ≤ P.2.1) (hws : w ≤ P.2.2) (hQ : Q (some (.int v)) n T I R) : z_X G M P Q n T I R k w pc ls [.int v] := by
  intro p e s m args below meth c H locs L Cx hn hH hS hL
  refine W.widen (k := P.2.1) (n := P.2.2) hkc hws ?_
  exact W.zret Cx.1 Cx.2.1 (Cx.2.2.2.2.2.1.trans hr) hnr (fun t ht hW => ⟨⟨(some (.int v)), n, T, I, R, rfl, by rw [ht]; exact hn, by rw [ht]; exact hH.moved hW.alike, hQ⟩, hS.F ht⟩) hS.2.2 hd Cx.2.2.2.2.2.2.1
theorem z_vret  (hr : M.2.2.2.2.1 = none) (hd : decode M.2.1 pc = .ok (.return_, 1)) (hkc : k ≤ P.2.1) (hws : w ≤ P.2.2) (hQ : Q none n T I R) : z_X G M P Q n T I R k w pc ls [] := by
  intro p e s m args below meth c H locs L Cx hn hH hS hL
  refine W.widen (k := P.2.1) (n := P.2.2) hkc hws ?_
  exact W.vret Cx.1 Cx.2.1 (Cx.2.2.2.2.2.1.trans hr) (fun t ht hW => ⟨⟨none, n, T, I, R, rfl, by rw [ht]; exact hn, by rw [ht]; exact hH.moved hW.alike, hQ⟩, hS.F ht⟩) hS.2.2 hd Cx.2.2.2.2.2.2.1
theorem z_aret {a : Nat} {nm : String} (hr : M.2.2.2.2.1 = some (.object nm)) (hd : decode M.2.1 pc = .ok (.areturn, 1)) (hkc : k ≤ P.2.1) (hws : w ≤ P.2.2) (hQ : Q (some (.ref a)) n T I R) : z_X G M P Q n T I R k w pc ls [.ref a] := by
  intro p e s m args below meth c H locs L Cx hn hH hS hL
  refine W.widen (k := P.2.1) (n := P.2.2) hkc hws ?_
  exact W.aret Cx.1 Cx.2.1 (Cx.2.2.2.2.2.1.trans hr) (Or.inl ⟨nm, rfl⟩) (Or.inr ⟨a, rfl⟩) (fun t ht hW => ⟨⟨(some (.ref a)), n, T, I, R, rfl, by rw [ht]; exact hn, by rw [ht]; exact hH.moved hW.alike, hQ⟩, hS.F ht⟩) hS.2.2 hd Cx.2.2.2.2.2.2.1
theorem z_aretN {nm : String} (hr : M.2.2.2.2.1 = some (.object nm)) (hd : decode M.2.1 pc = .ok (.areturn, 1)) (hkc : k ≤ P.2.1) (hws : w ≤ P.2.2) (hQ : Q (some .null) n T I R) : z_X G M P Q n T I R k w pc ls [.null] := by
  intro p e s m args below meth c H locs L Cx hn hH hS hL
  refine W.widen (k := P.2.1) (n := P.2.2) hkc hws ?_
  exact W.aret Cx.1 Cx.2.1 (Cx.2.2.2.2.2.1.trans hr) (Or.inl ⟨nm, rfl⟩) (Or.inl rfl) (fun t ht hW => ⟨⟨(some .null), n, T, I, R, rfl, by rw [ht]; exact hn, by rw [ht]; exact hH.moved hW.alike, hQ⟩, hS.F ht⟩) hS.2.2 hd Cx.2.2.2.2.2.2.1
theorem z_after {p : Program} {e : Env} {s : State} {m : MethodId} {args : Array Value} {below : List Frame} {meth : Method} {c : Code} {H : Heap} {locs : List Loc} {L : Array Slot} {mc ms : Nat} {st0 : List Value} {Qc : zQ} {a : Array Value} (Cx : z_C G M p s m args meth c) (hn : H.size = n) (hS : va_S (z_F G.2.2) s.heap H locs) (hL : lv_has L M.2.2.1 ls)
    (hr : va_Run p G.1 e (z_rm P) s m args below meth c H locs k w mc ms (F0 m pc L st0) st (z_Qc G Qc a) (z_F G.2.2))
    (kk : ∀ (r : Option Value) (n' : Nat) (T' : zTT) (I' : zII) (R' : zRR), Qc r n' T' I' R' → z_X G M P Q n' T' I' R' (k + mc) (w + ms) (pc + 3) ls (r.toList ++ st)) :
    W p G.1 e (z_rm P) s m args below meth c H locs k w (MQ below (z_Qc G Q) args s P.2.1 P.2.2 (z_F G.2.2)) (F0 m pc L st0) := by
  intro T0 hT0 X0
  obtain ⟨v, st₀, t, T', Lc, h0, X', hL', e1, e2, ⟨⟨r, n', T1, I1, R1, hv, hsz, hHt, hq⟩, hz, hk⟩, stp⟩ := hr T0 hT0 X0
  cases hv
  rw [h0] at hz hk
  have hal : t.vm.Alike s.vm := by rw [← e2]; exact X'.warmed.alike.symm
  obtain ⟨t2, a1, b1⟩ := kk v n' T1 I1 R1 hq p e s m args below meth c T'.heap (locs ++ Lc) L Cx (by rw [e1]; exact hsz) (by rw [e1]; exact hHt.moved hal)
    ⟨Nat.le_trans hS.1 (by rw [e1]; exact hz), fun q h1 h2 => by rw [e1, hk q (Nat.lt_of_lt_of_le h1 hS.1) h2]; exact hS.2.1 q h1 h2, fun q hq => by
      rcases List.mem_append.mp hq with h | h
      · exact hS.2.2 q h
      · exact hL' q h⟩ hL T' rfl X'
  exact ⟨t2, stp t2 a1, b1⟩
theorem z_blind {As : List Value} : FrameBlind (va_Pc As (z_pre G n T I R)) := fun a U g mk h => ⟨h.1, h.2.1, h.2.2.1.moved (U := U.calling g mk a) (Vm.Alike.refl U.vm), h.2.2.2.1.calling, h.2.2.2.2⟩
theorem z_pre_of {p : Program} {s : State} {m : MethodId} {args : Array Value} {meth : Method} {c : Code} {H : Heap} {locs : List Loc} (Cx : z_C G M p s m args meth c) (hn : H.size = n) (hH : z_H G.2.1 G.2.2 T I R s H) (hS : va_S (z_F G.2.2) s.heap H locs) : ∀ U : State, U.heap = H → s.WarmedH U.vm → z_pre G n T I R U := fun U hU hW =>
  ⟨by rw [hU]; exact hn, by rw [hU]; exact hH.moved hW.alike, Cx.2.2.2.2.2.2.2.2.1.warm hW, by rw [← hn]; exact Nat.le_trans Cx.2.2.2.2.2.2.2.2.2 hS.1⟩
theorem z_invV' {y : MethodName} {ws ws' : List Cond} {P' : zP} {As : List Value} {Qc : zQ} {bytes : ByteArray} {maxL na index : Nat} {ret : Option FieldType} {stk : List Value} {b ci : Nat} {C : String} {TT : u_T} {N : Nat} (hc : Ct G y ws P' (.ref b :: As) n T I R Qc) (hT : T b = some (.inl ci)) (hcl : vwCl[ci]? = some (C, TT, N)) (hG : GoodIn M.2.2.2.1 (wsV M.1 index C y ws)) (hw : ws = Cond.code y bytes maxL ret :: ws')
    (hy : y.cls = C ∧ y.cls ≠ "java/lang/invoke/MethodHandle" ∧ y.cls ≠ "java/lang/invoke/VarHandle" ∧ (parseMethodDescriptor y.desc).map (fun d => d.parameters.length) = some na) (hfr : Nat.ble (P'.1 + 1) P.1 = true) (hlo : Nat.ble (8 + (maxL + 11) + 36 * P'.1) (36 * P.1) = true) (hna : As.length = na) (hst : stk = As.reverse ++ .ref b :: st) (hW : (st.map fun v => v.category).sum ≤ 8) (hcap : k + P'.2.1 ≤ P.2.1 ∧ w + P'.2.2 ≤ P.2.2) (hd : decode M.2.1 pc = .ok (.invokevirtual index, 3)) (hq : pc + 3 = q)
    (kk : ∀ (r : Option Value) (n' : Nat) (T' : zTT) (I' : zII) (R' : zRR), Qc r n' T' I' R' → z_X G M P Q n' T' I' R' (k + P'.2.1) (w + P'.2.2) q ls (r.toList ++ st)) : z_X G M P Q n T I R k w pc ls stk := by
  subst hq
  subst hst
  intro p e s m args below meth c H locs L Cx hn hH hS hL
  obtain ⟨hx, hb, hml, hown, hts, hr, hlk, hin, hK, hz⟩ := id Cx
  obtain ⟨hnb, r', hr', cellV, g1, g2, g3, -⟩ := hH b _ hT
  refine z_after Cx hn hS hL (va_runV (As := As) ⟨hx, hb, rfl, hown, hts⟩ hc (cwV na hts hG hw rfl rfl hy ⟨Nat.le_of_ble_eq_true hfr, Nat.le_of_ble_eq_true hlo⟩) ⟨z_blind, ⟨cellV, g1, by rw [g3]; rfl, by rw [g2]; exact (hK.1.1 ci _ hcl).2.1⟩, fun U hU hWm => ⟨rfl, z_pre_of Cx hn hH hS U hU hWm⟩⟩ rfl hna (hL.1.trans hml.symm) rfl (lv_room hW) hd hcap) kk
theorem z_invS' {y : MethodName} {ws ws' : List Cond} {P' : zP} {As : List Value} {Qc : zQ} {bytes : ByteArray} {maxL na index : Nat} {ret : Option FieldType} {stk : List Value} (hc : Ct G y ws P' As n T I R Qc) (hG : GoodIn M.2.2.2.1 (va_wsS M.1 index y ws)) (hw : ws = Cond.code y bytes maxL ret :: ws')
    (hy : y.cls ≠ "java/lang/invoke/MethodHandle" ∧ y.cls ≠ "java/lang/invoke/VarHandle" ∧ (parseMethodDescriptor y.desc).map (fun d => d.parameters.length) = some na) (hfr : Nat.ble (P'.1 + 1) P.1 = true) (hlo : Nat.ble (8 + (maxL + 11) + 36 * P'.1) (36 * P.1) = true) (hna : As.length = na) (hst : stk = As.reverse ++ st) (hW : (st.map fun v => v.category).sum ≤ 8) (hcap : k + P'.2.1 ≤ P.2.1 ∧ w + P'.2.2 ≤ P.2.2) (hd : decode M.2.1 pc = .ok (.invokestatic index, 3)) (hq : pc + 3 = q)
    (kk : ∀ (r : Option Value) (n' : Nat) (T' : zTT) (I' : zII) (R' : zRR), Qc r n' T' I' R' → z_X G M P Q n' T' I' R' (k + P'.2.1) (w + P'.2.2) q ls (r.toList ++ st)) : z_X G M P Q n T I R k w pc ls stk := by
  subst hq
  subst hst
  intro p e s m args below meth c H locs L Cx hn hH hS hL
  obtain ⟨hx, hb, hml, hown, hts, hr, hlk, hin, hK, hz⟩ := id Cx
  refine z_after Cx hn hS hL (va_runS (As := As) ⟨hx, hb, rfl, hown, hts⟩ hc (va_cwS na hts hG hw rfl rfl hy ⟨Nat.le_of_ble_eq_true hfr, Nat.le_of_ble_eq_true hlo⟩) ⟨z_blind, fun U hU hWm => ⟨rfl, z_pre_of Cx hn hH hS U hU hWm⟩⟩ rfl hna (hL.1.trans hml.symm) rfl (lv_room hW) hd hcap) kk
theorem z_invI' {y : MethodName} {ws ws' : List Cond} {P' : zP} {As : List Value} {Qc : zQ} {bytes : ByteArray} {maxL na index : Nat} {stk : List Value} {b i j l : Nat} (hc : Ct G y ws P' (.ref b :: As) n T I R Qc) (hG : GoodIn M.2.2.2.1 ws) (hw : ws = Cond.code y bytes maxL none :: ws') (h1 : M.2.2.2.1[i]? = some (.methodLink M.1 index y)) (h2 : M.2.2.2.1[j]? = some (.instanceMethod y)) (h3 : M.2.2.2.1[l]? = some (.initialized y.cls))
    (hy : y.name = "<init>" ∧ y.cls ≠ "java/lang/invoke/MethodHandle" ∧ y.cls ≠ "java/lang/invoke/VarHandle" ∧ (parseMethodDescriptor y.desc).map (fun d => d.parameters.length) = some na) (hfr : Nat.ble (P'.1 + 1) P.1 = true) (hlo : Nat.ble (8 + (maxL + 11) + 36 * P'.1) (36 * P.1) = true) (hna : As.length = na) (hst : stk = As.reverse ++ .ref b :: st) (hW : (st.map fun v => v.category).sum ≤ 8) (hcap : k + P'.2.1 ≤ P.2.1 ∧ w + P'.2.2 ≤ P.2.2) (hd : decode M.2.1 pc = .ok (.invokespecial index, 3)) (hq : pc + 3 = q)
    (kk : ∀ (r : Option Value) (n' : Nat) (T' : zTT) (I' : zII) (R' : zRR), Qc r n' T' I' R' → z_X G M P Q n' T' I' R' (k + P'.2.1) (w + P'.2.2) q ls (r.toList ++ st)) : z_X G M P Q n T I R k w pc ls stk := by
  subst hq
  subst hst
  intro p e s m args below meth c H locs L Cx hn hH hS hL
  obtain ⟨hx, hb, hml, hown, hts, hr, hlk, hin, hK, hz⟩ := id Cx
  refine z_after Cx hn hS hL (va_runI (As := As) ⟨hx, hb, rfl, hown, hts⟩ hc (cwI na hts hG hw rfl rfl (hts _ (List.mem_of_getElem? h3)) (hts _ (List.mem_of_getElem? h1)) (hts _ (List.mem_of_getElem? h2)) hy.1 hy.2 ⟨Nat.le_of_ble_eq_true hfr, Nat.le_of_ble_eq_true hlo⟩) ⟨z_blind, fun U hU hWm => ⟨rfl, z_pre_of Cx hn hH hS U hU hWm⟩⟩ rfl hna (hL.1.trans hml.symm) rfl (lv_room hW) hd hcap) kk
theorem z_invSN {y : MethodName} {ws ws' : List Cond} {As : List Value} {Qc : zQ} {bytes : ByteArray} {maxL na index : Nat} {ret : Option FieldType} {stk : List Value} {d' l j : Nat} {host : String} (hc : Ct G y ws (d', 0, 0) As n T I R Qc) (hG : GoodIn M.2.2.2.1 ws) (hw : ws = Cond.code y bytes maxL ret :: ws') (hnl : ∀ U : State, z_K G.2.1 U → va_Nw (.methodLinkNest M.1 index y host) U) (h2 : M.2.2.2.1[j]? = some (.static y)) (h3 : M.2.2.2.1[l]? = some (.initialized y.cls))
    (hy : y.cls ≠ "java/lang/invoke/MethodHandle" ∧ y.cls ≠ "java/lang/invoke/VarHandle" ∧ (parseMethodDescriptor y.desc).map (fun d => d.parameters.length) = some na) (hfr : Nat.ble (d' + 1) P.1 = true) (hlo : Nat.ble (8 + (maxL + 11) + 36 * d') (36 * P.1) = true) (hna : As.length = na) (hst : stk = As.reverse ++ st) (hW : (st.map fun v => v.category).sum ≤ 8) (hcap : k ≤ P.2.1 ∧ w ≤ P.2.2) (hd : decode M.2.1 pc = .ok (.invokestatic index, 3)) (hq : pc + 3 = q)
    (kk : ∀ (r : Option Value) (n' : Nat) (T' : zTT) (I' : zII) (R' : zRR), Qc r n' T' I' R' → z_X G M P Q n' T' I' R' k w q ls (r.toList ++ st)) : z_X G M P Q n T I R k w pc ls stk := by
  subst hq
  subst hst
  intro p e s m args below meth c H locs L Cx hn hH hS hL
  obtain ⟨hx, hb, hml, hown, hts, hr, hlk, hin, hK, hz⟩ := id Cx
  refine z_after Cx hn hS hL (va_runSN (As := As) ⟨hx, hb, rfl, hown, hts⟩ hc ⟨va_cnB na hts hG hw rfl rfl (hnl s hK) (hts _ (List.mem_of_getElem? h3)) hy ⟨Nat.le_of_ble_eq_true hfr, Nat.le_of_ble_eq_true hlo⟩, hts _ (List.mem_of_getElem? h2), trivial⟩ ⟨z_blind, fun U hU hWm => ⟨rfl, z_pre_of Cx hn hH hS U hU hWm⟩⟩ rfl hna (hL.1.trans hml.symm) rfl (lv_room hW) hd hcap) kk
theorem z_invIN' {y : MethodName} {ws ws' : List Cond} {P' : zP} {As : List Value} {Qc : zQ} {bytes : ByteArray} {maxL na index : Nat} {stk : List Value} {b j l : Nat} {host : String} (hc : Ct G y ws P' (.ref b :: As) n T I R Qc) (hG : GoodIn M.2.2.2.1 ws) (hw : ws = Cond.code y bytes maxL none :: ws') (hnl : ∀ U : State, z_K G.2.1 U → va_Nw (.methodLinkNest M.1 index y host) U) (h2 : M.2.2.2.1[j]? = some (.instanceMethod y)) (h3 : M.2.2.2.1[l]? = some (.initialized y.cls))
    (hy : y.name = "<init>" ∧ y.cls ≠ "java/lang/invoke/MethodHandle" ∧ y.cls ≠ "java/lang/invoke/VarHandle" ∧ (parseMethodDescriptor y.desc).map (fun d => d.parameters.length) = some na) (hfr : Nat.ble (P'.1 + 1) P.1 = true) (hlo : Nat.ble (8 + (maxL + 11) + 36 * P'.1) (36 * P.1) = true) (hna : As.length = na) (hst : stk = As.reverse ++ .ref b :: st) (hW : (st.map fun v => v.category).sum ≤ 8) (hcap : k + P'.2.1 ≤ P.2.1 ∧ w + P'.2.2 ≤ P.2.2) (hd : decode M.2.1 pc = .ok (.invokespecial index, 3)) (hq : pc + 3 = q)
    (kk : ∀ (r : Option Value) (n' : Nat) (T' : zTT) (I' : zII) (R' : zRR), Qc r n' T' I' R' → z_X G M P Q n' T' I' R' (k + P'.2.1) (w + P'.2.2) q ls (r.toList ++ st)) : z_X G M P Q n T I R k w pc ls stk := by
  subst hq
  subst hst
  intro p e s m args below meth c H locs L Cx hn hH hS hL
  obtain ⟨hx, hb, hml, hown, hts, hr, hlk, hin, hK, hz⟩ := id Cx
  refine z_after Cx hn hS hL (va_runIN (As := As) ⟨hx, hb, rfl, hown, hts⟩ hc ⟨va_cnB na hts hG hw rfl rfl (hnl s hK) (hts _ (List.mem_of_getElem? h3)) hy.2 ⟨Nat.le_of_ble_eq_true hfr, Nat.le_of_ble_eq_true hlo⟩, hy.1, hts _ (List.mem_of_getElem? h2)⟩ ⟨z_blind, fun U hU hWm => ⟨rfl, z_pre_of Cx hn hH hS U hU hWm⟩⟩ rfl hna (hL.1.trans hml.symm) rfl (lv_room hW) hd hcap) kk
theorem z_invV {y : MethodName} {ws ws' : List Cond} {As : List Value} {Qc : zQ} {bytes : ByteArray} {maxL na index : Nat} {ret : Option FieldType} {stk : List Value} {d' b ci : Nat} {C : String} {TT : u_T} {N : Nat} (hc : Ct G y ws (d', 0, 0) (.ref b :: As) n T I R Qc) (hT : T b = some (.inl ci)) (hcl : vwCl[ci]? = some (C, TT, N)) (hG : GoodIn M.2.2.2.1 (wsV M.1 index C y ws)) (hw : ws = Cond.code y bytes maxL ret :: ws')
    (hy : y.cls = C ∧ y.cls ≠ "java/lang/invoke/MethodHandle" ∧ y.cls ≠ "java/lang/invoke/VarHandle" ∧ (parseMethodDescriptor y.desc).map (fun d => d.parameters.length) = some na) (hfr : Nat.ble (d' + 1) P.1 = true) (hlo : Nat.ble (8 + (maxL + 11) + 36 * d') (36 * P.1) = true) (hna : As.length = na) (hst : stk = As.reverse ++ .ref b :: st) (hW : (st.map fun v => v.category).sum ≤ 8) (hcap : k ≤ P.2.1 ∧ w ≤ P.2.2) (hd : decode M.2.1 pc = .ok (.invokevirtual index, 3)) (hq : pc + 3 = q)
    (kk : ∀ (r : Option Value) (n' : Nat) (T' : zTT) (I' : zII) (R' : zRR), Qc r n' T' I' R' → z_X G M P Q n' T' I' R' k w q ls (r.toList ++ st)) : z_X G M P Q n T I R k w pc ls stk := z_invV' hc hT hcl hG hw hy hfr hlo hna hst hW hcap hd hq kk
theorem z_invS {y : MethodName} {ws ws' : List Cond} {As : List Value} {Qc : zQ} {bytes : ByteArray} {maxL na index : Nat} {ret : Option FieldType} {stk : List Value} {d' : Nat} (hc : Ct G y ws (d', 0, 0) As n T I R Qc) (hG : GoodIn M.2.2.2.1 (va_wsS M.1 index y ws)) (hw : ws = Cond.code y bytes maxL ret :: ws')
    (hy : y.cls ≠ "java/lang/invoke/MethodHandle" ∧ y.cls ≠ "java/lang/invoke/VarHandle" ∧ (parseMethodDescriptor y.desc).map (fun d => d.parameters.length) = some na) (hfr : Nat.ble (d' + 1) P.1 = true) (hlo : Nat.ble (8 + (maxL + 11) + 36 * d') (36 * P.1) = true) (hna : As.length = na) (hst : stk = As.reverse ++ st) (hW : (st.map fun v => v.category).sum ≤ 8) (hcap : k ≤ P.2.1 ∧ w ≤ P.2.2) (hd : decode M.2.1 pc = .ok (.invokestatic index, 3)) (hq : pc + 3 = q)
    (kk : ∀ (r : Option Value) (n' : Nat) (T' : zTT) (I' : zII) (R' : zRR), Qc r n' T' I' R' → z_X G M P Q n' T' I' R' k w q ls (r.toList ++ st)) : z_X G M P Q n T I R k w pc ls stk := z_invS' hc hG hw hy hfr hlo hna hst hW hcap hd hq kk
/-- an answer told, the memory told -/
abbrev z_ret (r0 : Option Value) (n0 : Nat) (T0 : zTT) (I0 : zII) (R0 : zRR) : zQ := fun r n' T' I' R' => r = r0 ∧ n' = n0 ∧ T' = T0 ∧ I' = I0 ∧ R' = R0
theorem z_rv {v : Value} {n2 : Nat} {T2 : zTT} {I2 : zII} {R2 : zRR} (h : z_X G M P Q n2 T2 I2 R2 k w q ls (v :: st)) : ∀ (r : Option Value) (n' : Nat) (T' : zTT) (I' : zII) (R' : zRR), z_ret (some v) n2 T2 I2 R2 r n' T' I' R' → z_X G M P Q n' T' I' R' k w q ls (r.toList ++ st) := by
  rintro _ _ _ _ _ ⟨rfl, rfl, rfl, rfl, rfl⟩
  exact h
theorem z_rn {n2 : Nat} {T2 : zTT} {I2 : zII} {R2 : zRR} (h : z_X G M P Q n2 T2 I2 R2 k w q ls st) : ∀ (r : Option Value) (n' : Nat) (T' : zTT) (I' : zII) (R' : zRR), z_ret none n2 T2 I2 R2 r n' T' I' R' → z_X G M P Q n' T' I' R' k w q ls (r.toList ++ st) := by
  rintro _ _ _ _ _ ⟨rfl, rfl, rfl, rfl, rfl⟩
  exact h
/-- an answer told, of the memory something -/
abbrev z_rel (r0 : Option Value) (n0 : Nat) (T0 : zTT) (Z : zII → zRR → Prop) : zQ := fun r n' T' I' R' => r = r0 ∧ n' = n0 ∧ T' = T0 ∧ Z I' R'
theorem z_rvR {v : Value} {n2 : Nat} {T2 : zTT} {Z : zII → zRR → Prop} (h : ∀ (I2 : zII) (R2 : zRR), Z I2 R2 → z_X G M P Q n2 T2 I2 R2 k w q ls (v :: st)) : ∀ (r : Option Value) (n' : Nat) (T' : zTT) (I' : zII) (R' : zRR), z_rel (some v) n2 T2 Z r n' T' I' R' → z_X G M P Q n' T' I' R' k w q ls (r.toList ++ st) := by
  rintro _ _ _ I' R' ⟨rfl, rfl, rfl, hZ⟩
  exact h I' R' hZ
theorem z_rnR {n2 : Nat} {T2 : zTT} {Z : zII → zRR → Prop} (h : ∀ (I2 : zII) (R2 : zRR), Z I2 R2 → z_X G M P Q n2 T2 I2 R2 k w q ls st) : ∀ (r : Option Value) (n' : Nat) (T' : zTT) (I' : zII) (R' : zRR), z_rel none n2 T2 Z r n' T' I' R' → z_X G M P Q n' T' I' R' k w q ls (r.toList ++ st) := by
  rintro _ _ _ I' R' ⟨rfl, rfl, rfl, hZ⟩
  exact h I' R' hZ
theorem z_objInit {a index i j l : Nat} (h1 : M.2.2.2.1[i]? = some (.methodLink M.1 index objectInit)) (h2 : M.2.2.2.1[j]? = some (.instanceMethod objectInit)) (h3 : M.2.2.2.1[l]? = some (.code objectInit ⟨#[0xb1]⟩ 1 none)) (hfr : Nat.ble 1 P.1 = true) (hW : (st.map fun v => v.category).sum ≤ 8) (hd : decode M.2.1 pc = .ok (.invokespecial index, 3)) (hq : pc + 3 = q) (kk : z_X G M P Q n T I R k w q ls st) : z_X G M P Q n T I R k w pc ls (.ref a :: st) := by
  subst hq
  intro p e s m args below meth c H locs L Cx hn hH hS hL
  have hf := Nat.le_of_ble_eq_true hfr
  exact W.objInit Cx.1 Cx.2.1 Cx.2.2.2.1 (Cx.2.2.2.2.1 _ (List.mem_of_getElem? h1)) (Cx.2.2.2.2.1 _ (List.mem_of_getElem? h2)) (Cx.2.2.2.2.1 _ (List.mem_of_getElem? h3)) rfl (by rw [Cx.2.2.1]; exact hL.1) rfl hd hf (by show 2 * 0 + _ + 12 ≤ 36 * P.1; omega) (kk p e s m args below meth c H locs L Cx hn hH hS hL)
theorem z_max {x y : Int32} {index i j l o : Nat} (h1 : M.2.2.2.1[i]? = some (.methodLink M.1 index Lib.Math.max.name)) (h2 : M.2.2.2.1[j]? = some (.static Lib.Math.max.name)) (h3 : M.2.2.2.1[l]? = some (.initialized "java/lang/Math")) (h4 : M.2.2.2.1[o]? = some (.code Lib.Math.max.name Lib.Math.max.code 2 (some .int))) (hfr : Nat.ble 1 P.1 = true) (hW : (st.map fun v => v.category).sum ≤ 8) (hcap : k ≤ P.2.1 ∧ w ≤ P.2.2) (hd : decode M.2.1 pc = .ok (.invokestatic index, 3)) (hq : pc + 3 = q) (kk : z_X G M P Q n T I R k w q ls (.int (if x < y then y else x) :: st)) : z_X G M P Q n T I R k w pc ls (.int y :: .int x :: st) := by
  subst hq
  intro p e s m args below meth c H locs L Cx hn hH hS hL
  have hf := Nat.le_of_ble_eq_true hfr
  exact va_mmax Cx.1 Cx.2.1 (by rw [Cx.2.2.1]; exact hL.1.symm) Cx.2.2.2.1 (Cx.2.2.2.2.1 _ (List.mem_of_getElem? h1)) (Cx.2.2.2.2.1 _ (List.mem_of_getElem? h2)) (Cx.2.2.2.2.1 _ (List.mem_of_getElem? h3)) (Cx.2.2.2.2.1 _ (List.mem_of_getElem? h4)) hf (by show _ + 13 ≤ 36 * P.1; omega) hcap.1 hcap.2 hd (kk p e s m args below meth c H locs L Cx hn hH hS hL)
theorem z_min {x y : Int32} {index i j l o : Nat} (h1 : M.2.2.2.1[i]? = some (.methodLink M.1 index Lib.Math.min.name)) (h2 : M.2.2.2.1[j]? = some (.static Lib.Math.min.name)) (h3 : M.2.2.2.1[l]? = some (.initialized "java/lang/Math")) (h4 : M.2.2.2.1[o]? = some (.code Lib.Math.min.name Lib.Math.min.code 2 (some .int))) (hfr : Nat.ble 1 P.1 = true) (hW : (st.map fun v => v.category).sum ≤ 8) (hcap : k ≤ P.2.1 ∧ w ≤ P.2.2) (hd : decode M.2.1 pc = .ok (.invokestatic index, 3)) (hq : pc + 3 = q) (kk : z_X G M P Q n T I R k w q ls (.int (if y < x then y else x) :: st)) : z_X G M P Q n T I R k w pc ls (.int y :: .int x :: st) := by
  subst hq
  intro p e s m args below meth c H locs L Cx hn hH hS hL
  have hf := Nat.le_of_ble_eq_true hfr
  exact va_mmin Cx.1 Cx.2.1 (by rw [Cx.2.2.1]; exact hL.1.symm) Cx.2.2.2.1 (Cx.2.2.2.2.1 _ (List.mem_of_getElem? h1)) (Cx.2.2.2.2.1 _ (List.mem_of_getElem? h2)) (Cx.2.2.2.2.1 _ (List.mem_of_getElem? h3)) (Cx.2.2.2.2.1 _ (List.mem_of_getElem? h4)) hf (by show _ + 13 ≤ 36 * P.1; omega) hcap.1 hcap.2 hd (kk p e s m args below meth c H locs L Cx hn hH hS hL)
theorem z_abs {x : Int32} {index i j l o : Nat} (h1 : M.2.2.2.1[i]? = some (.methodLink M.1 index Lib.Math.abs.name)) (h2 : M.2.2.2.1[j]? = some (.static Lib.Math.abs.name)) (h3 : M.2.2.2.1[l]? = some (.initialized "java/lang/Math")) (h4 : M.2.2.2.1[o]? = some (.code Lib.Math.abs.name Lib.Math.abs.code 1 (some .int))) (hfr : Nat.ble 1 P.1 = true) (hW : (st.map fun v => v.category).sum ≤ 8) (hcap : k ≤ P.2.1 ∧ w ≤ P.2.2) (hd : decode M.2.1 pc = .ok (.invokestatic index, 3)) (hq : pc + 3 = q) (kk : z_X G M P Q n T I R k w q ls (.int (if 0 ≤ x then x else 0 - x) :: st)) : z_X G M P Q n T I R k w pc ls (.int x :: st) := by
  subst hq
  intro p e s m args below meth c H locs L Cx hn hH hS hL
  have hf := Nat.le_of_ble_eq_true hfr
  exact va_mabs Cx.1 Cx.2.1 (by rw [Cx.2.2.1]; exact hL.1.symm) Cx.2.2.2.1 (Cx.2.2.2.2.1 _ (List.mem_of_getElem? h1)) (Cx.2.2.2.2.1 _ (List.mem_of_getElem? h2)) (Cx.2.2.2.2.1 _ (List.mem_of_getElem? h3)) (Cx.2.2.2.2.1 _ (List.mem_of_getElem? h4)) hf (by show _ + 13 ≤ 36 * P.1; omega) hcap.1 hcap.2 hd (kk p e s m args below meth c H locs L Cx hn hH hS hL)
/-- so many ints from place 0 to place 0 -/
def zc (I : zII) (a0 a : Nat) (m : Nat) : zII := fun a' k' => if a' = a ∧ k' < m then I a0 k' else I a' k'
theorem zc_row (I : zII) {a0 a m a' : Nat} (h : a' ≠ a) : zc I a0 a m a' = I a' := by
  funext k'
  simp [zc, h]
theorem z_acopy {a a0 m n0 n1 index i j l o : Nat} {x y z : Int32} (h1 : M.2.2.2.1[i]? = some (.methodLink M.1 index arraycopyName)) (h2 : M.2.2.2.1[j]? = some (.native arraycopyName)) (h3 : M.2.2.2.1[l]? = some (.static arraycopyName)) (h4 : M.2.2.2.1[o]? = some (.initialized "java/lang/System")) (hT0 : T a0 = some (.inr (.int, n0))) (hT : T a = some (.inr (.int, n1))) (hx0 : x = nI 0) (hy0 : y = nI 0) (hzm : z = nI m) (hm0 : m ≤ n0) (hm1 : m ≤ n1) (hm : m < 2 ^ 31) (hfr : Nat.ble 1 P.1 = true) (hW : (st.map fun v => v.category).sum ≤ 8) (hd : decode M.2.1 pc = .ok (.invokestatic index, 3)) (hq : pc + 3 = q)
    (kk : z_X G M P Q n T (zc I a0 a m) R k w q ls st) : z_X G M P Q n T I R k w pc ls (.int z :: .int y :: .ref a :: .int x :: .ref a0 :: st) := by
  subst hq
  subst hx0
  subst hy0
  subst hzm
  intro p e s m' args below meth c H locs L Cx hn hH hS hL
  have hf := Nat.le_of_ble_eq_true hfr
  obtain ⟨hx, hb, hml, hown, hts, hr, hlk, hin, hK, hz⟩ := id Cx
  obtain ⟨hna0, c0, q1, q2, q3⟩ := hH a0 _ hT0
  obtain ⟨hna, c1, r1, r2, r3⟩ := hH a _ hT
  have q1 : H[a0]? = some (arrV c0 n0 (fun j => .int (I a0 j))) := q1
  have r1 : H[a]? = some (arrV c1 n1 (fun j => .int (I a j))) := r1
  have hc0 : (nI 0).toNatClampNeg = 0 := nI_clamp (by decide)
  have hcm : (nI m).toNatClampNeg = m := nI_clamp hm
  have ht0 : (nI 0).toInt = 0 := nI_toInt (by decide)
  have htm : (nI m).toInt = (m : Int) := nI_toInt hm
  intro T0 hT0' X
  obtain ⟨-, k0, hk0, cm0, hkk0⟩ := q2 n0 (fun j => .int (I a0 j))
  obtain ⟨-, k1, hk1, cm1, hkk1⟩ := r2 n1 (fun j => .int (I a j))
  obtain ⟨vm', X', step⟩ := X.arraycopy hx hown (hts _ (List.mem_of_getElem? h1)) (hts _ (List.mem_of_getElem? h2)) (hts _ (List.mem_of_getElem? h3)) (hts _ (List.mem_of_getElem? h4)) (src := a0) (dst := a) (cs := arrV c0 n0 (fun j => .int (I a0 j))) (cd := arrV c1 n1 (fun j => .int (I a j))) (srcPos := nI 0) (destPos := nI 0) (n := nI m) (by rw [hT0']; exact q1) (by rw [hT0']; exact r1)
    (fun _ h => by cases h) (fun _ h => by cases h) (fun h => by cases h) (fun h => by cases h) hk0 hk1 hkk0 hkk1 (by simp [refKind]) (by decide) (by decide) (nI_pos hm)
    (by rw [ht0, htm, arrV_size]; omega)
    (by rw [ht0, htm, arrV_size]; omega)
    (fun vm₁ _ i hi => by
      have e : (arrV c0 n0 (fun j => Value.int (I a0 j))).slots.getD ((nI 0).toNatClampNeg + i) .null = .int (I a0 ((nI 0).toNatClampNeg + i)) := by
        rw [Array.getD_eq_getD_getElem?, arrV_read _ _ (by rw [hc0]; rw [hcm] at hi; omega)]
        rfl
      refine ⟨?_, ?_⟩
      · rw [e]
        rfl
      · rw [e]
        exact trivial)
    (g := F0 m' pc L (.int (nI m) :: .int (nI 0) :: .ref a :: .int (nI 0) :: .ref a0 :: st)) rfl (by rw [hml]; exact hL.1) (rest := st) rfl (by rw [hb]; exact hd) hf (by show 2 * 0 + _ + _ ≤ 36 * P.1; have : nativeFrameWords "java/lang/System" "arraycopy" 5 ≤ 16 := by decide +kernel
                                                                                                                                                                          omega)
  have e1 : copied (arrV c0 n0 (fun j => Value.int (I a0 j))) (arrV c1 n1 (fun j => Value.int (I a j))) (nI 0) (nI 0) (nI m) = arrV c1 n1 (fun j => .int (va_cpy (I a0) (I a) 0 0 m j)) := by
    have h := va_copied (fun z => Value.int z) c0 c1 (n0 := n0) (n1 := n1) (sp := 0) (dp := 0) (n := m) (I a0) (I a) (by omega)
    rw [← h]
    simp only [copied, hc0, hcm]
  rw [e1] at X' step
  have hl : a < H.size := (Array.getElem?_eq_some_iff.mp r1).1
  have hheap : ((T0.setVm vm').setCell a (arrV c1 n1 (fun j => .int (va_cpy (I a0) (I a) 0 0 m j)))).heap = H.setIfInBounds a (arrV c1 n1 (fun j => .int (va_cpy (I a0) (I a) 0 0 m j))) := by rw [← hT0']; rfl
  have oq : ∀ q : Nat, q ≠ a → (H.setIfInBounds a (arrV c1 n1 (fun j => Value.int (va_cpy (I a0) (I a) 0 0 m j))))[q]? = H[q]? := fun q hq => by simp [Array.getElem?_setIfInBounds, Ne.symm hq]
  have hnew : (H.setIfInBounds a (arrV c1 n1 (fun j => Value.int (va_cpy (I a0) (I a) 0 0 m j))))[a]? = some (arrV c1 n1 (z_val (.inr (.int, n1)) (zc I a0 a m a) (R a))) := by
    rw [Array.getElem?_setIfInBounds]
    simp only [hl, if_true]
    refine congrArg (fun z => some (arrV c1 n1 z)) (funext fun y => ?_)
    by_cases hy : y < m <;> simp [va_cpy, zc, z_val, z_ref, hy]
  obtain ⟨t, a1, b1⟩ := kk p e s m' args below meth c _ _ L Cx (by rw [Array.size_setIfInBounds]; exact hn) (z_H_upd hH hT (fun a' h => zc_row I h) (fun _ _ => rfl) ⟨c1, hnew, r2, r3⟩ oq) ⟨by simp; exact hS.1, fun q g1 g2 => by
      rw [oq q (fun e => g2 (by rw [e]; exact hna))]
      exact hS.2.1 q g1 g2, fun q hq => by
      rcases List.mem_append.mp hq with h | h
      · exact hS.2.2 q h
      · obtain ⟨z, -, hz⟩ := List.mem_map.mp h
        rw [← hz]
        exact hna⟩ hL _ hheap X'
  exact ⟨t, step t a1, b1⟩
theorem z_new {C : String} {TT : u_T} {N index : Nat} (ci i j l : Nat) (ty : Nat → FieldType) (hty : ∀ k, k < N → parseFieldDescriptor (TT k).2.2.1 = some (ty k)) (hin : ∀ w ∈ u_ws C TT N, w ∈ M.2.2.2.1) (hcl : vwCl[ci]? = some (C, TT, N)) (h1 : M.2.2.2.1[i]? = some (.classLink M.1 index C)) (h2 : M.2.2.2.1[j]? = some (.instantiable C N)) (h3 : M.2.2.2.1[l]? = some (.initialized C)) (hdef : ∀ x, x < N → defaultValue (ty x) = z_val (.inl ci) (fun _ => 0) (fun _ => none) x) (hcap : k + 1 ≤ P.2.1 ∧ w + N ≤ P.2.2) (hd : decode M.2.1 pc = .ok (.new index, 3)) (hq : pc + 3 = q)
    (kk : z_X G M P Q (n + 1) (zN T n (some (.inl ci))) (zN I n (fun _ => 0)) (zN R n (fun _ => none)) (k + 1) (w + N) q ls (.ref n :: st)) : z_X G M P Q n T I R k w pc ls st := by
  subst hq
  intro p e s m args below meth c H locs L Cx hn hH hS hL
  obtain ⟨hx, hb, hml, hown, hts, hr, hlk, hinit, hK, hz⟩ := id Cx
  have hKn := hK.1.1 ci _ hcl
  refine W.newcK hx hb hown (hts _ (List.mem_of_getElem? h1)) (hts _ (List.mem_of_getElem? h2)) (hts _ (List.mem_of_getElem? h3)) rfl hd hcap.1 hcap.2 hKn.2.1 hn fun H1 kC hkC e1 z1 o1 => ?_
  refine kk p e s m args below meth c H1 _ L Cx z1 (z_H_new hH hn (by rw [← hn]; exact Nat.le_trans hz hS.1) (fun a' h => zN_n I _ h) (fun a' h => zN_n R _ h) ?_ o1) ⟨Nat.le_trans hS.1 (by rw [z1, ← hn]; omega), fun x a1 a2 => (o1 x (by rw [← hn]; exact Nat.lt_of_lt_of_le a1 hS.1)).trans (hS.2.1 x a1 a2), hS.2.2⟩ hL
  rw [zN_s, zN_s]
  exact ⟨_, hcl, (u_born ty hts hin hKn hkC e1 hty).to hdef⟩
theorem z_newa {atype : ArrayType} {ty : FieldType} {x : Int32} (len i : Nat) (h1 : M.2.2.2.1[i]? = some (.arrayClass (newarray.typeOf atype))) (hty : newarray.typeOf atype = ty) (hra : ∀ (U : State) (cA : ClassId), U.vm.findClass ("[" ++ ty.toString) = some cA → va_RA U cA ty) (hx : x = nI len) (hlen : len < 65536) (hdef : ∀ y, defaultValue ty = z_val (.inr (ty, len)) (fun _ => 0) (fun _ => none) y) (hbytes : len * componentBytes ty ≤ 536870912) (hcap : k + 1 ≤ P.2.1 ∧ w + len ≤ P.2.2) (hd : decode M.2.1 pc = .ok (.newarray atype, 2)) (hq : pc + 2 = q)
    (kk : z_X G M P Q (n + 1) (zN T n (some (.inr (ty, len)))) (zN I n (fun _ => 0)) (zN R n (fun _ => none)) (k + 1) (w + len) q ls (.ref n :: st)) : z_X G M P Q n T I R k w pc ls (.int x :: st) := by
  subst hq
  subst hx
  subst hty
  intro p e s m args below meth c H locs L Cx hn hH hS hL
  obtain ⟨hx, hb, hml, hown, hts, hr, hlk, hinit, hK, hz⟩ := id Cx
  have hln : len < 2 ^ 31 := by omega
  refine va_newaK hx hb (hts _ (List.mem_of_getElem? h1)) rfl hd rfl (nI_pos hln) (nI_clamp hln) hbytes hcap.1 hcap.2 hn fun H1 cA e1 z1 o1 hAr hNm => ?_
  refine kk p e s m args below meth c H1 _ L Cx z1 (z_H_new hH hn (by rw [← hn]; exact Nat.le_trans hz hS.1) (fun a' h => zN_n I _ h) (fun a' h => zN_n R _ h) ?_ o1) ⟨Nat.le_trans hS.1 (by rw [z1, ← hn]; omega), fun x a1 a2 => (o1 x (by rw [← hn]; exact Nat.lt_of_lt_of_le a1 hS.1)).trans (hS.2.1 x a1 a2), hS.2.2⟩ hL
  rw [zN_s, zN_s]
  refine ⟨cA, ?_, hAr, hra s cA hNm⟩
  rw [e1]
  exact congrArg (fun z => some (arrV cA len z)) (funext hdef)
theorem z_newq {C : String} {index : Nat} {x : Int32} (len i : Nat) (h1 : M.2.2.2.1[i]? = some (.classLink M.1 index C)) (hao : ∀ U : State, z_K G.2.1 U → va_AO C U) (hx : x = nI len) (hlen : len < 65536) (hcap : k + 1 ≤ P.2.1 ∧ w + len ≤ P.2.2) (hd : decode M.2.1 pc = .ok (.anewarray index, 3)) (hq : pc + 3 = q)
    (kk : z_X G M P Q (n + 1) (zN T n (some (.inr (.object C, len)))) (zN I n (fun _ => 0)) (zN R n (fun _ => none)) (k + 1) (w + len) q ls (.ref n :: st)) : z_X G M P Q n T I R k w pc ls (.int x :: st) := by
  subst hq
  subst hx
  intro p e s m args below meth c H locs L Cx hn hH hS hL
  obtain ⟨hx, hb, hml, hown, hts, hr, hlk, hinit, hK, hz⟩ := id Cx
  have hln : len < 2 ^ 31 := by omega
  have hcl : (nI len).toNatClampNeg = len := nI_clamp hln
  refine W.anew hx hb hown (hts _ (List.mem_of_getElem? h1)) (va_AO.use (hao s hK)) rfl hd rfl (nI_pos hln) (by rw [hcl]; omega) hcap.1 (by rw [hcl]; exact hcap.2) fun cA kA comp f1 f2 f3 f4 => ?_
  rw [hcl]
  generalize hH1 : H.push ({ cls := cA, slots := Array.replicate len .null, vm := .none } : Cell) = H1
  have z1 : H1.size = n + 1 := by rw [← hH1, Array.size_push, hn]
  have e1 : H1[n]? = some (arrV cA len (fun _ => .null)) := by rw [← hH1, ← hn, Array.getElem?_push_size, ← arrV_new]
  have o1 : ∀ q : Nat, q < n → H1[q]? = H[q]? := fun q hq => by rw [← hH1, Array.getElem?_push, if_neg (by omega)]
  rw [show Value.ref H.size = Value.ref n by rw [hn]]
  refine kk p e s m args below meth c H1 _ L Cx z1 (z_H_new hH hn (by rw [← hn]; exact Nat.le_trans hz hS.1) (fun a' h => zN_n I _ h) (fun a' h => zN_n R _ h) ?_ o1) ⟨Nat.le_trans hS.1 (by rw [z1, ← hn]; omega), fun x a1 a2 => (o1 x (by rw [← hn]; exact Nat.lt_of_lt_of_le a1 hS.1)).trans (hS.2.1 x a1 a2), hS.2.2⟩ hL
  rw [zN_s, zN_s]
  refine ⟨cA, ?_, fun N z => ⟨(fun k h => by cases h), kA, f2, comp, f3⟩, kA, comp, f2, f3, f4, f1⟩
  rw [e1]
  exact congrArg (fun z => some (arrV cA len z)) (funext fun y => by simp [z_val, z_ref, va_rf])
/-- words of one list among another's, by their places -/
theorem z_sub {ws Ts : List Cond} (is : List Nat) (h : is.map (fun i => Ts[i]?) = ws.map some) : ∀ w ∈ ws, w ∈ Ts := by
  intro w hw
  have h1 : some w ∈ ws.map some := List.mem_map.mpr ⟨w, hw, rfl⟩
  rw [← h] at h1
  obtain ⟨i, -, hi⟩ := List.mem_map.mp h1
  exact List.mem_of_getElem? hi
end ZX
