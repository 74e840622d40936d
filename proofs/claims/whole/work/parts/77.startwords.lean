/-! THE LAW: what its start gives -/
theorem inAll {big ws : List Cond} (h : ws.all (fun w => decide (w ∈ big)) = true) : ∀ w ∈ ws, w ∈ big := fun w hw => of_decide_eq_true (List.all_eq_true.mp h w hw)
theorem lwX0_in : ∀ w ∈ u_ws RX0 TX0 10, w ∈ lw_tbl := inAll (by decide +kernel)
theorem lwN0 : ∀ a, a < 10 → ∀ b, b < 10 → a ≠ b → (TX0 a).2.1 ≠ (TX0 b).2.1 := by decide +kernel
theorem lwX1_in : ∀ w ∈ u_ws RX1 TX1 5, w ∈ lw_tbl := inAll (by decide +kernel)
theorem lwN1 : ∀ a, a < 5 → ∀ b, b < 5 → a ≠ b → (TX1 a).2.1 ≠ (TX1 b).2.1 := by decide +kernel
theorem lwX2_in : ∀ w ∈ u_ws RX2 TX2 2, w ∈ lw_tbl := inAll (by decide +kernel)
theorem lwN2 : ∀ a, a < 2 → ∀ b, b < 2 → a ≠ b → (TX2 a).2.1 ≠ (TX2 b).2.1 := by decide +kernel
theorem lwX3_in : ∀ w ∈ u_ws RX3 TX3 10, w ∈ lw_tbl := inAll (by decide +kernel)
theorem lwN3 : ∀ a, a < 10 → ∀ b, b < 10 → a ≠ b → (TX3 a).2.1 ≠ (TX3 b).2.1 := by decide +kernel
theorem lwX4_in : ∀ w ∈ u_ws RX4 TX4 2, w ∈ lw_tbl := inAll (by decide +kernel)
theorem lwN4 : ∀ a, a < 2 → ∀ b, b < 2 → a ≠ b → (TX4 a).2.1 ≠ (TX4 b).2.1 := by decide +kernel
theorem lwX5_in : ∀ w ∈ u_ws RX5 TX5 7, w ∈ lw_tbl := inAll (by decide +kernel)
theorem lwN5 : ∀ a, a < 7 → ∀ b, b < 7 → a ≠ b → (TX5 a).2.1 ≠ (TX5 b).2.1 := by decide +kernel
theorem lwX6_in : ∀ w ∈ u_ws RX6 TX6 6, w ∈ lw_tbl := inAll (by decide +kernel)
theorem lwN6 : ∀ a, a < 6 → ∀ b, b < 6 → a ≠ b → (TX6 a).2.1 ≠ (TX6 b).2.1 := by decide +kernel
theorem lwX7_in : ∀ w ∈ u_ws RX7 TX7 5, w ∈ lw_tbl := inAll (by decide +kernel)
theorem lwN7 : ∀ a, a < 5 → ∀ b, b < 5 → a ≠ b → (TX7 a).2.1 ≠ (TX7 b).2.1 := by decide +kernel
theorem lwX8_in : ∀ w ∈ u_ws RX8 TX8 13, w ∈ lw_tbl := inAll (by decide +kernel)
theorem lwN8 : ∀ a, a < 13 → ∀ b, b < 13 → a ≠ b → (TX8 a).2.1 ≠ (TX8 b).2.1 := by decide +kernel
theorem lw_ins : ∀ w ∈ [Cond.instantiable RX0 10, Cond.instantiable RX1 5, Cond.instantiable RX2 2, Cond.instantiable RX3 10, Cond.instantiable RX4 2, Cond.instantiable RX5 7, Cond.instantiable RX6 6, Cond.instantiable RX7 5, Cond.instantiable RX8 13], w ∈ lw_tbl := inAll (by decide +kernel)
theorem lw_aos : ∀ w ∈ [Cond.arrayOver (.object RX0), Cond.arrayOver (.object RX1), Cond.arrayOver (.object RX3), Cond.arrayOver (.object RX5)], w ∈ lw_tbl := inAll (by decide +kernel)
theorem lw_kns : ∀ w ∈ [Cond.methodLinkNest RX7 28 yX6_init RX7, Cond.methodLinkNest RX7 35 yX1_init RX7, Cond.methodLinkNest RX3 35 yX5_init RX7, Cond.methodLinkNest RX3 36 yX0_init RX7, Cond.methodLinkNest RX4 17 yX1_init RX7, Cond.methodLinkNest RX6 17 yX1_init RX7, Cond.methodLinkNest RX6 71 yX7_isWithin RX7], w ∈ lw_tbl := inAll (by decide +kernel)
set_option maxRecDepth 20000 in
theorem wsL_law_in : ∀ w ∈ wsL_law, w ∈ lw_tbl := by
  unfold wsL_law
  exact List.forall_mem_append.mpr ⟨(List.forall_mem_append.mpr ⟨(List.forall_mem_append.mpr ⟨(List.forall_mem_append.mpr ⟨(List.forall_mem_append.mpr ⟨(List.forall_mem_append.mpr ⟨(List.forall_mem_append.mpr ⟨(List.forall_mem_append.mpr ⟨(List.forall_mem_append.mpr ⟨(List.forall_mem_append.mpr ⟨(List.forall_mem_append.mpr ⟨(fun w h => (wsL_law_r1_in w h).1), (List.forall_mem_append.mpr ⟨(fun w h => (wsL_law_r2_in w h).1), (List.forall_mem_append.mpr ⟨(fun w h => (wsL_law_r3_in w h).1), (List.forall_mem_append.mpr ⟨(fun w h => (wsL_law_r4_in w h).1), (List.forall_mem_append.mpr ⟨(fun w h => (wsL_law_r5_in w h).1), (List.forall_mem_append.mpr ⟨(fun w h => (wsL_law_r6_in w h).1), (List.forall_mem_append.mpr ⟨(fun w h => (wsL_law_r7_in w h).1), (List.forall_mem_append.mpr ⟨(fun w h => (wsL_law_r8_in w h).1), (List.forall_mem_append.mpr ⟨(fun w h => (wsL_law_r9_in w h).1), (List.forall_mem_append.mpr ⟨(fun w h => (wsL_law_r10_in w h).1), (List.forall_mem_append.mpr ⟨(fun w h => (wsL_law_r11_in w h).1), (List.forall_mem_append.mpr ⟨(fun w h => (wsL_law_r12_in w h).1), (List.forall_mem_append.mpr ⟨(fun w h => (wsL_law_r13_in w h).1), (List.forall_mem_append.mpr ⟨(fun w h => (wsL_law_r14_in w h).1), (List.forall_mem_append.mpr ⟨(fun w h => (wsL_law_r15_in w h).1), (List.forall_mem_append.mpr ⟨(fun w h => (wsL_law_r16_in w h).1), (List.forall_mem_append.mpr ⟨(fun w h => (wsL_law_r17_in w h).1), (List.forall_mem_append.mpr ⟨(fun w h => (wsL_law_r18_in w h).1), (List.forall_mem_append.mpr ⟨(fun w h => (wsL_law_r19_in w h).1), (List.forall_mem_append.mpr ⟨(fun w h => (wsL_law_r20_in w h).1), (List.forall_mem_append.mpr ⟨(fun w h => (wsL_law_r21_in w h).1), (List.forall_mem_append.mpr ⟨(fun w h => (wsL_law_r22_in w h).1), (List.forall_mem_append.mpr ⟨(fun w h => (wsL_law_r23_in w h).1), (List.forall_mem_append.mpr ⟨(fun w h => (wsL_law_r24_in w h).1), (List.forall_mem_append.mpr ⟨(fun w h => (wsL_law_r25_in w h).1), (List.forall_mem_append.mpr ⟨(fun w h => (wsL_law_r26_in w h).1), (List.forall_mem_append.mpr ⟨(fun w h => (wsL_law_r27_in w h).1), (List.forall_mem_append.mpr ⟨(fun w h => (wsL_law_r28_in w h).1), (List.forall_mem_append.mpr ⟨(fun w h => (wsL_law_r29_in w h).1), (List.forall_mem_append.mpr ⟨(fun w h => (wsL_law_r30_in w h).1), (List.forall_mem_append.mpr ⟨(fun w h => (wsL_law_r31_in w h).1), (List.forall_mem_append.mpr ⟨(fun w h => (wsL_law_r32_in w h).1), (List.forall_mem_append.mpr ⟨(fun w h => (wsL_law_r33_in w h).1), (List.forall_mem_append.mpr ⟨(fun w h => (wsL_law_r34_in w h).1), (List.forall_mem_append.mpr ⟨(fun w h => (wsL_law_r35_in w h).1), (List.forall_mem_append.mpr ⟨(fun w h => (wsL_law_r36_in w h).1), (List.forall_mem_append.mpr ⟨(fun w h => (wsL_law_r37_in w h).1), (fun w h => (wsL_law_r38_in w h).1)⟩)⟩)⟩)⟩)⟩)⟩)⟩)⟩)⟩)⟩)⟩)⟩)⟩)⟩)⟩)⟩)⟩)⟩)⟩)⟩)⟩)⟩)⟩)⟩)⟩)⟩)⟩)⟩)⟩)⟩)⟩)⟩)⟩)⟩)⟩)⟩)⟩), lwX7_in⟩), lwX8_in⟩), lwX3_in⟩), lwX2_in⟩), lwX6_in⟩), lwX1_in⟩), lwX4_in⟩), lwX5_in⟩), lwX0_in⟩), fun _ h => absurd h List.not_mem_nil⟩
theorem lw_K {s : State} {args : Array Value} (hts : ∀ w ∈ lw_tbl, w.before args s = true) : ∃ D : va_G, z_K D s := by
  obtain ⟨c0, i0, k0⟩ := u_known (n := 10) hts lwX0_in (hts _ (lw_ins _ (List.mem_of_getElem? (i := 0) rfl)))
  obtain ⟨c1, i1, k1⟩ := u_known (n := 5) hts lwX1_in (hts _ (lw_ins _ (List.mem_of_getElem? (i := 1) rfl)))
  obtain ⟨c2, i2, k2⟩ := u_known (n := 2) hts lwX2_in (hts _ (lw_ins _ (List.mem_of_getElem? (i := 2) rfl)))
  obtain ⟨c3, i3, k3⟩ := u_known (n := 10) hts lwX3_in (hts _ (lw_ins _ (List.mem_of_getElem? (i := 3) rfl)))
  obtain ⟨c4, i4, k4⟩ := u_known (n := 2) hts lwX4_in (hts _ (lw_ins _ (List.mem_of_getElem? (i := 4) rfl)))
  obtain ⟨c5, i5, k5⟩ := u_known (n := 7) hts lwX5_in (hts _ (lw_ins _ (List.mem_of_getElem? (i := 5) rfl)))
  obtain ⟨c6, i6, k6⟩ := u_known (n := 6) hts lwX6_in (hts _ (lw_ins _ (List.mem_of_getElem? (i := 6) rfl)))
  obtain ⟨c7, i7, k7⟩ := u_known (n := 5) hts lwX7_in (hts _ (lw_ins _ (List.mem_of_getElem? (i := 7) rfl)))
  obtain ⟨c8, i8, k8⟩ := u_known (n := 13) hts lwX8_in (hts _ (lw_ins _ (List.mem_of_getElem? (i := 8) rfl)))
  have hK : va_K ((fun ci => match ci with | 0 => c0 | 1 => c1 | 2 => c2 | 3 => c3 | 4 => c4 | 5 => c5 | 6 => c6 | 7 => c7 | _ => c8), (fun ci => match ci with | 0 => i0 | 1 => i1 | 2 => i2 | 3 => i3 | 4 => i4 | 5 => i5 | 6 => i6 | 7 => i7 | _ => i8)) vwCl [] s := by
    refine ⟨fun c q h => ?_, fun k q h => by simp at h⟩
    cases c with
    | zero =>
      obtain rfl : (RX0, TX0, 10) = q := Option.some.inj h
      exact k0
    | succ c =>
      cases c with
      | zero =>
        obtain rfl : (RX1, TX1, 5) = q := Option.some.inj h
        exact k1
      | succ c =>
        cases c with
        | zero =>
          obtain rfl : (RX2, TX2, 2) = q := Option.some.inj h
          exact k2
        | succ c =>
          cases c with
          | zero =>
            obtain rfl : (RX3, TX3, 10) = q := Option.some.inj h
            exact k3
          | succ c =>
            cases c with
            | zero =>
              obtain rfl : (RX4, TX4, 2) = q := Option.some.inj h
              exact k4
            | succ c =>
              cases c with
              | zero =>
                obtain rfl : (RX5, TX5, 7) = q := Option.some.inj h
                exact k5
              | succ c =>
                cases c with
                | zero =>
                  obtain rfl : (RX6, TX6, 6) = q := Option.some.inj h
                  exact k6
                | succ c =>
                  cases c with
                  | zero =>
                    obtain rfl : (RX7, TX7, 5) = q := Option.some.inj h
                    exact k7
                  | succ c =>
                    cases c with
                    | zero =>
                      obtain rfl : (RX8, TX8, 13) = q := Option.some.inj h
                      exact k8
                    | succ c =>
                      exact absurd (show (none : Option vw_C) = some q from h) (fun z => by cases z)
  refine ⟨_, hK, fun ci r h => ?_, ⟨va_AO.of (hts _ (lw_aos _ (List.mem_of_getElem? (i := 0) rfl))), va_AO.of (hts _ (lw_aos _ (List.mem_of_getElem? (i := 1) rfl))), va_AO.of (hts _ (lw_aos _ (List.mem_of_getElem? (i := 2) rfl))), va_AO.of (hts _ (lw_aos _ (List.mem_of_getElem? (i := 3) rfl)))⟩, va_Nw.of rfl (hts _ (lw_kns _ (List.mem_of_getElem? (i := 0) rfl))), va_Nw.of rfl (hts _ (lw_kns _ (List.mem_of_getElem? (i := 1) rfl))), va_Nw.of rfl (hts _ (lw_kns _ (List.mem_of_getElem? (i := 2) rfl))), va_Nw.of rfl (hts _ (lw_kns _ (List.mem_of_getElem? (i := 3) rfl))), va_Nw.of rfl (hts _ (lw_kns _ (List.mem_of_getElem? (i := 4) rfl))), va_Nw.of rfl (hts _ (lw_kns _ (List.mem_of_getElem? (i := 5) rfl))), va_Nw.of rfl (hts _ (lw_kns _ (List.mem_of_getElem? (i := 6) rfl)))⟩
  have hh := h
  cases ci with
  | zero =>
    obtain rfl : (RX0, TX0, 10) = r := Option.some.inj h
    exact va_apart (own := "") hts lwX0_in tyX0 tyX0_ok lwN0 hK hh
  | succ ci =>
    cases ci with
    | zero =>
      obtain rfl : (RX1, TX1, 5) = r := Option.some.inj h
      exact va_apart (own := "") hts lwX1_in tyX1 tyX1_ok lwN1 hK hh
    | succ ci =>
      cases ci with
      | zero =>
        obtain rfl : (RX2, TX2, 2) = r := Option.some.inj h
        exact va_apart (own := "") hts lwX2_in tyX2 tyX2_ok lwN2 hK hh
      | succ ci =>
        cases ci with
        | zero =>
          obtain rfl : (RX3, TX3, 10) = r := Option.some.inj h
          exact va_apart (own := "") hts lwX3_in tyX3 tyX3_ok lwN3 hK hh
        | succ ci =>
          cases ci with
          | zero =>
            obtain rfl : (RX4, TX4, 2) = r := Option.some.inj h
            exact va_apart (own := "") hts lwX4_in tyX4 tyX4_ok lwN4 hK hh
          | succ ci =>
            cases ci with
            | zero =>
              obtain rfl : (RX5, TX5, 7) = r := Option.some.inj h
              exact va_apart (own := "") hts lwX5_in tyX5 tyX5_ok lwN5 hK hh
            | succ ci =>
              cases ci with
              | zero =>
                obtain rfl : (RX6, TX6, 6) = r := Option.some.inj h
                exact va_apart (own := "") hts lwX6_in tyX6 tyX6_ok lwN6 hK hh
              | succ ci =>
                cases ci with
                | zero =>
                  obtain rfl : (RX7, TX7, 5) = r := Option.some.inj h
                  exact va_apart (own := "") hts lwX7_in tyX7 tyX7_ok lwN7 hK hh
                | succ ci =>
                  cases ci with
                  | zero =>
                    obtain rfl : (RX8, TX8, 13) = r := Option.some.inj h
                    exact va_apart (own := "") hts lwX8_in tyX8 tyX8_ok lwN8 hK hh
                  | succ ci =>
                    exact absurd (show (none : Option vw_C) = some r from h) (fun z => by cases z)
