/-! THE PLAN, an entry put in -/
theorem posF_spec (g : Nat → Int32) (t : Int32) : ∀ f k, k ≤ posF g t f k ∧ posF g t f k ≤ k + f ∧ (∀ j, k ≤ j → j < posF g t f k → ¬ t < g (321 + 5 * j + 0)) ∧ (posF g t f k < k + f → t < g (321 + 5 * posF g t f k + 0)) := by
  intro f
  induction f with
  | zero => intro k; exact ⟨Nat.le_refl _, Nat.le_refl _, fun j h1 h2 => absurd h2 (by show ¬ j < k; omega), fun h => absurd h (Nat.lt_irrefl _)⟩
  | succ f ih =>
    intro k
    rw [posF]
    by_cases h : t < g (321 + 5 * k + 0)
    · rw [if_pos h]
      exact ⟨Nat.le_refl _, by omega, fun j h1 h2 => absurd h2 (by omega), fun _ => h⟩
    · rw [if_neg h]
      obtain ⟨h1, h2, h3, h4⟩ := ih (k + 1)
      refine ⟨by omega, by omega, fun j j1 j2 => ?_, fun z => h4 (by omega)⟩
      by_cases e : j = k
      · subst e; exact h
      · exact h3 j (by omega) j2
theorem putG_o {g : Nat → Int32} {np : Nat} {t kd wh sp mu : Int32} (hnp : np < 16) {c : Nat} (hc : sc c) (h5 : c ≠ 5) : putG g np t kd wh sp mu c = g c := by
  have hp := (posF_spec g t np 0).2.1
  unfold sc at hc
  rw [putG, upd_n _ _ h5, putB, upd_n _ _ hc.1, putE, upd_n _ _ (by omega), upd_n _ _ (by omega), upd_n _ _ (by omega), upd_n _ _ (by omega), upd_n _ _ (by omega), insP, if_neg (by omega)]
theorem putG_5 {g : Nat → Int32} {np : Nat} {t kd wh sp mu : Int32} : putG g np t kd wh sp mu 5 = g 5 + sp * mu := by
  rw [putG, upd_s, putB, upd_n _ _ (by decide), putE, upd_n _ _ (by omega), upd_n _ _ (by omega), upd_n _ _ (by omega), upd_n _ _ (by omega), upd_n _ _ (by omega), insP, if_neg (by omega)]
theorem putG_c {g : Nat → Int32} {np : Nat} {t kd wh sp mu : Int32} (hnp : np < 16) {k w : Nat} (hk : k ≤ np) (hw : w < 5) : putG g np t kd wh sp mu (321 + 5 * k + w) = if k < posF g t np 0 then g (321 + 5 * k + w) else if k = posF g t np 0 then (if w = 0 then t else if w = 1 then kd else if w = 2 then wh else if w = 3 then sp else mu) else g (321 + 5 * (k - 1) + w) := by
  have hp := (posF_spec g t np 0).2.1
  rw [putG, upd_n _ _ (by omega), putB, upd_n _ _ (by omega), putE]
  generalize posF g t np 0 = p at hp ⊢
  by_cases e : k = p
  · subst e
    rw [if_neg (Nat.lt_irrefl k), if_pos rfl]
    rcases (show w = 0 ∨ w = 1 ∨ w = 2 ∨ w = 3 ∨ w = 4 by omega) with rfl | rfl | rfl | rfl | rfl
    · rw [upd_n _ _ (by omega), upd_n _ _ (by omega), upd_n _ _ (by omega), upd_n _ _ (by omega), upd_s]; rfl
    · rw [upd_n _ _ (by omega), upd_n _ _ (by omega), upd_n _ _ (by omega), upd_s]; rfl
    · rw [upd_n _ _ (by omega), upd_n _ _ (by omega), upd_s]; rfl
    · rw [upd_n _ _ (by omega), upd_s]; rfl
    · rw [upd_s]; rfl
  · rw [upd_n _ _ (by omega), upd_n _ _ (by omega), upd_n _ _ (by omega), upd_n _ _ (by omega), upd_n _ _ (by omega), insP, if_neg e]
    by_cases h : k < p
    · rw [if_pos h, if_neg (by omega)]
    · rw [if_neg h, if_pos (by omega), show 321 + 5 * k + w - 5 = 321 + 5 * (k - 1) + w by omega]
theorem put_ent {g : Nat → Int32} {np : Nat} {t kd wh sp mu : Int32} (hnp : np < 16) {k : Nat} (hk : k ≤ np) : ent (putG g np t kd wh sp mu) k = insF (ent g) (posF g t np 0) (t, kd, wh, sp, mu) k := by
  unfold ent insF
  rw [putG_c hnp hk (by decide), putG_c hnp hk (by decide), putG_c hnp hk (by decide), putG_c hnp hk (by decide), putG_c hnp hk (by decide)]
  by_cases h : k < posF g t np 0
  · simp only [if_pos h]
  · by_cases e : k = posF g t np 0
    · simp only [if_neg h, if_pos e]
      rfl
    · simp only [if_neg h, if_neg e]
theorem put_pos {nr nd np st : Nat} {g : Nat → Int32} (hI : INV nr nd np st g) {t : Int32} : (∀ j, posF g t np 0 ≤ j → j < np → t < g (321 + 5 * j + 0)) ∧ (0 < posF g t np 0 → ¬ t < g (321 + 5 * (posF g t np 0 - 1) + 0)) := by
  obtain ⟨-, p1, p2, p3⟩ := posF_spec g t np 0
  have hs : ∀ d j, posF g t np 0 + d = j → j < np → t < g (321 + 5 * j + 0) := by
    intro d
    induction d with
    | zero =>
      intro j hj hn
      have hj' : posF g t np 0 = j := hj
      rw [← hj'] at hn ⊢
      exact p3 (by omega)
    | succ d ih =>
      intro j hj hn
      have h1 := ih (j - 1) (by omega) (by omega)
      obtain ⟨f1, -, -, -, -, a1, -, -, -, -, a2, -⟩ := INV_ent hI (k := j - 1) (by omega)
      obtain ⟨f2, -, -, -, -, b1, -, -, -, -, b2, -⟩ := INV_ent hI (k := j) hn
      have hle := hI.2.2.2.2.2.2.2 (j - 1) (by omega)
      rw [show j - 1 + 1 = j by omega, gN_of (show g (321 + 5 * (j - 1)) = nI f1 from a1) (by omega), gN_of (show g (321 + 5 * j) = nI f2 from b1) (by omega)] at hle
      rw [a1] at h1
      rw [b1]
      exact Int32.lt_of_lt_of_le h1 ((nI_leI (by omega) (by omega)).mpr hle)
  exact ⟨fun j h1 h2 => hs (j - posF g t np 0) j (by omega) h2, fun h => p2 _ (Nat.zero_le _) (by omega)⟩
theorem INV_put {nr nd np st : Nat} {g : Nat → Int32} {t kd wh sp mu : Int32} (hI : INV nr nd np st g) (hnp : np < 16) (hE : EOK nr nd st (t, kd, wh, sp, mu)) : INV nr nd (np + 1) st (putG g np t kd wh sp mu) := by
  have hpos := put_pos hI (t := t)
  have hple := (posF_spec g t np 0).2.1
  have ho : ∀ {c : Nat}, sc c → c ≠ 5 → putG g np t kd wh sp mu c = g c := fun h1 h2 => putG_o hnp h1 h2
  have hen : ∀ k, k ≤ np → ent (putG g np t kd wh sp mu) k = insF (ent g) (posF g t np 0) (t, kd, wh, sp, mu) k := fun k hk => put_ent hnp hk
  obtain ⟨⟨a1, a2⟩, ⟨b1, b2⟩, ⟨c1, c2⟩, d1, e1, f1, p1, p2⟩ := hI
  refine ⟨⟨by rw [ho (by unfold sc; omega) (by decide)]; exact a1, a2⟩, ⟨by rw [ho (by unfold sc; omega) (by decide)]; exact b1, b2⟩, ⟨putG_2 c1 t kd wh sp mu, by omega⟩, by rw [ho (by unfold sc; omega) (by decide)]; exact d1, ?_, ?_, ?_, ?_⟩
  · intro r hr
    refine ⟨fun hn => ?_, fun hn => ⟨fun w hw => ?_, fun k hk => ?_⟩⟩
    · rw [ho (by unfold sc; omega) (by omega), ho (by unfold sc; omega) (by omega)]
      exact (e1 r hr).1 hn
    · rw [ho (by unfold sc; omega) (by omega)]
      exact ((e1 r hr).2 hn).1 w hw
    · rw [ho (by unfold sc; omega) (by omega)]
      exact ((e1 r hr).2 hn).2 k hk
  · intro d hd
    refine ⟨fun hn => ?_, fun hn => ⟨fun w hw => ?_, fun k hk => ?_⟩⟩
    · have q : ∀ w, w < 8 → putG g np t kd wh sp mu (57 + 10 * d + w) = g (57 + 10 * d + w) := fun w hw => ho (by unfold sc; omega) (by omega)
      have := (f1 d hd).1 hn
      unfold DOK at this ⊢
      rw [q 0 (by omega), q 1 (by omega), q 2 (by omega), q 3 (by omega), q 4 (by omega), q 5 (by omega), q 6 (by omega), q 7 (by omega)]
      exact this
    · rw [ho (by unfold sc; omega) (by omega)]
      exact ((f1 d hd).2 hn).1 w hw
    · rw [ho (by unfold sc; omega) (by omega)]
      exact ((f1 d hd).2 hn).2 k hk
  · intro k hk
    rw [hen k (by omega)]
    unfold insF
    by_cases h : k < posF g t np 0
    · rw [if_pos h]; exact p1 k (by omega)
    · by_cases e : k = posF g t np 0
      · rw [if_neg h, if_pos e]; exact hE
      · rw [if_neg h, if_neg e]; exact p1 (k - 1) (by omega)
  · have hf : ∀ k, k ≤ np → putG g np t kd wh sp mu (321 + 5 * k) = if k < posF g t np 0 then g (321 + 5 * k) else if k = posF g t np 0 then t else g (321 + 5 * (k - 1)) := fun k hk => putG_c hnp hk (w := 0) (by decide)
    have hfn : ∀ k, k < np → ∃ f, g (321 + 5 * k) = nI f ∧ f ≤ 5000 := fun k hk => by
      obtain ⟨f, kd', wh', sp', mu', a, b, -⟩ := p1 k hk
      exact ⟨f, congrArg (fun z : zE => z.1) a, b⟩
    obtain ⟨tn, kn, wn, sn, mn, ht, ht5, -⟩ := hE
    have ht : t = nI tn := congrArg (fun z : zE => z.1) ht
    have gt : t.toNatClampNeg = tn := by rw [ht]; exact nI_clamp (by omega)
    intro k hk
    unfold gN
    rw [hf k (by omega), hf (k + 1) (by omega)]
    by_cases h : k + 1 < posF g t np 0
    · rw [if_pos (by omega), if_pos h]; exact p2 k (by omega)
    · by_cases e : k + 1 = posF g t np 0
      · rw [if_pos (by omega), if_neg h, if_pos e, gt]
        obtain ⟨f, f1, f2⟩ := hfn k (by omega)
        have := hpos.2 (by omega)
        rw [← e, show k + 1 - 1 = k by omega, show g (321 + 5 * k + 0) = g (321 + 5 * k) from rfl, f1, ht, nI_ltI (by omega) (by omega)] at this
        rw [f1, nI_clamp (by omega)]
        omega
      · by_cases e2 : k = posF g t np 0
        · rw [if_neg (by omega), if_pos e2, if_neg h, if_neg e, gt, show k + 1 - 1 = k by omega]
          obtain ⟨f, f1, f2⟩ := hfn k (by omega)
          have := hpos.1 k (by omega) (by omega)
          rw [show g (321 + 5 * k + 0) = g (321 + 5 * k) from rfl, f1, ht, nI_ltI (by omega) (by omega)] at this
          rw [f1, nI_clamp (by omega)]
          omega
        · rw [if_neg (by omega), if_neg e2, if_neg h, if_neg e, show k + 1 - 1 = k - 1 + 1 by omega]
          exact p2 (k - 1) (by omega)
theorem take_h (G : zG) {n : Nat} {T : zTT} {I : zII} {R : zRR} (a b st nr nd np : Nat) (F : Nat → zE) (g : Nat → Int32) (t kd wh sp mu : Int32) (hH : z_House T R a) (hI : INV nr nd np st g) (hG : z_HR I a g (fun _ => st) (fun _ => st)) (hP : z_P T I R (a + 3) np F) (hF : pl F np = planL g np) (hnp : np < 16) (hb : b < a ∨ a + 98 ≤ b) (hTb : T b = some (.inl 1)) (hb01 : I b 0 = 0 ∨ I b 0 = 1) (he : entC I b = (t, kd, wh, sp, mu)) (hE : EOK nr nd st (t, kd, wh, sp, mu)) : Ct G yX3_take wsX3_take (2, 0, 0) [.ref a, .ref b] n T I R (z_rel none n T (fun I' R' => z_Hs T R' I' a st (putG g np t kd wh sp mu) ∧ INV nr nd (np + 1) st (putG g np t kd wh sp mu) ∧ z_fa a I I' ∧ ∀ q, q ≠ a + 4 → R' q = R q)) := by
  have hIp := INV_put hI hnp hE
  have hpos := put_pos hI (t := t)
  have hple : posF g t np 0 ≤ np := by have := (posF_spec g t np 0).2.1; omega
  have ht : I b 1 = t := congrArg (fun z : zE => z.1) he
  have hF1 : ∀ j, j < np → (F j).1 = g (321 + 5 * j + 0) := fun j hj => congrArg (fun z : zE => z.1) (pl_ent hF hj)
  refine (c_X3_take G a np b (posF g t np 0) F hH hP hnp hb hTb hb01 hple (fun j j1 j2 => by rw [ht, hF1 j j2]; exact hpos.1 j j1 j2) (fun h => by rw [ht, hF1 _ (by omega)]; exact hpos.2 h)).impR (fun I' R' z => ?_)
  obtain ⟨z1, z2, z3, z4⟩ := z
  rw [he] at z1 z2
  have hea : eaC (t, kd, wh, sp, mu) = sp * mu := by
    show (if kd = nI 0 then sp * mu else 0) = sp * mu
    obtain ⟨f, kn, wn, sn, mn, e, -, hc⟩ := hE
    have ek : kd = nI kn := congrArg (fun z : zE => z.2.1) e
    have es : sp = nI sn := congrArg (fun z : zE => z.2.2.2.1) e
    rcases hc with ⟨k0, -⟩ | ⟨k1, -, s0, -⟩
    · rw [ek, k0, if_pos rfl]
    · rw [ek, k1, if_neg z_n100, es, s0, nI_0, Int32.zero_mul]
  rw [hea] at z2
  refine ⟨⟨z_House_R hH (fun q _ _ h => z4 q h), nr, nd, np + 1, insF F (posF g t np 0) (t, kd, wh, sp, mu), hIp, ?_, z1, ?_⟩, hIp, fun q hq => z3 q (by omega) (by omega), z4⟩
  · have h5 : I a 8 = g 5 := (HR_sc hG).2.2.2.2.1
    have h1 := HRw_5 hG (g 5 + sp * mu)
    have h2 : z_HR I' a (upd g 5 (g 5 + sp * mu)) (fun _ => st) (fun _ => st) := HR_f h1 (fun q q1 q2 q3 => by
      by_cases e : q = a
      · subst e
        rw [z2, h5, zw_upd]
      · rw [z3 q e q3, zw_row _ _ e])
    refine HR_g h2 (fun c c1 c2 => ?_)
    by_cases e : c = 5
    · subst e
      rw [putG_5, upd_s]
    · rw [putG_o hnp c2 e, upd_n _ _ e]
  · refine List.map_congr_left (fun k hk => ?_)
    have hk : k < np + 1 := List.mem_range.mp hk
    rw [put_ent hnp (by omega)]
    unfold insF
    by_cases h : k < posF g t np 0
    · rw [if_pos h, if_pos h]; exact pl_ent hF (by omega)
    · by_cases e : k = posF g t np 0
      · rw [if_neg h, if_pos e, if_neg h, if_pos e]
      · rw [if_neg h, if_neg e, if_neg h, if_neg e]; exact pl_ent hF (by omega)


