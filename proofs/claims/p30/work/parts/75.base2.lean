/-! MORE ROWS of the symbolic machine -/
section ZX
variable {G : zG} {M : zM} {P : zP} {Q : zQ} {n : Nat} {T : zTT} {I : zII} {R : zRR} {k w pc q : Nat} {ls ls' : List (Nat × Value)} {st : List Value}
theorem z_lrem {x y : Int64} (hd : decode M.2.1 pc = .ok (.lrem, 1)) (hne : ¬ y = 0) (hq : pc + 1 = q) (kk : z_X G M P Q n T I R k w q ls (.long (x - x / y * y) :: st)) : z_X G M P Q n T I R k w pc ls (.long y :: .long x :: st) := by
  subst hq
  intro p e s m args below meth c H locs L Cx hn hH hS hL
  exact lv_lrem Cx.1 Cx.2.1 hd hne (kk p e s m args below meth c H locs L Cx hn hH hS hL)
theorem z_lcmp {x y : Int64} (hd : decode M.2.1 pc = .ok (.lcmp, 1)) (hq : pc + 1 = q) (kk : z_X G M P Q n T I R k w q ls (.int (lg_cmp x y) :: st)) : z_X G M P Q n T I R k w pc ls (.long y :: .long x :: st) := by
  subst hq
  intro p e s m args below meth c H locs L Cx hn hH hS hL
  exact W.lcmp Cx.1 Cx.2.1 hd (kk p e s m args below meth c H locs L Cx hn hH hS hL)
theorem z_lconst {kf : Fin 2} {v : Int64} (hd : decode M.2.1 pc = .ok (.lconst kf, 1)) (hv : Int64.ofNat (kf : Nat) = v) (hq : pc + 1 = q) (kk : z_X G M P Q n T I R k w q ls (.long v :: st)) : z_X G M P Q n T I R k w pc ls st := by
  subst hq
  intro p e s m args below meth c H locs L Cx hn hH hS hL
  exact lv_lconst Cx.1 Cx.2.1 hd hv (kk p e s m args below meth c H locs L Cx hn hH hS hL)
/-- of the memory less is said -/
theorem z_forget {T0 : zTT} (hs : ∀ a t, T0 a = some t → T a = some t) (kk : z_X G M P Q n T0 I R k w pc ls st) : z_X G M P Q n T I R k w pc ls st :=
  fun p e s m args below meth c H locs L Cx hn hH hS hL => kk p e s m args below meth c H locs L Cx hn (fun a t ht => hH a t (hs a t ht)) hS hL
/-- what is told of a memory stands in it -/
theorem Ct.lt {y : MethodName} {ws : List Cond} {As : List Value} (h : (∀ a t, T a = some t → a < n) → Ct G y ws P As n T I R Q) : Ct G y ws P As n T I R Q := by
  intro p e ha hc hk s m args below hf happ hP hK
  refine h (fun a t ht => ?_) p e ha hc hk s m args below hf happ hP hK
  obtain ⟨-, hn, hH, -, -⟩ := hP
  rw [← hn]
  exact (hH a t ht).2.lt
theorem zN_lt (hlt : ∀ a t, T a = some t → a < n) (v : Option zTy) : ∀ a t, T a = some t → zN T n v a = some t := fun a t h => by
  rw [zN_n T v (by have := hlt a t h; omega)]
  exact h
end ZX

