/-! THE LAW: what its start gives -/
theorem lw_ins : ∀ w ∈ [Cond.instantiable RX0 10, Cond.instantiable RX1 5, Cond.instantiable RX2 2, Cond.instantiable RX3 10, Cond.instantiable RX4 2, Cond.instantiable RX5 7, Cond.instantiable RX6 6, Cond.instantiable RX7 5], w ∈ lw_tbl := inAll (by decide +kernel)
theorem lw_aos : ∀ w ∈ [Cond.arrayOver (.object RX0), Cond.arrayOver (.object RX1), Cond.arrayOver (.object RX3), Cond.arrayOver (.object RX5)], w ∈ lw_tbl := inAll (by decide +kernel)
theorem lw_kns : ∀ w ∈ [Cond.methodLinkNest RX7 28 yX6_init RX7, Cond.methodLinkNest RX7 35 yX1_init RX7, Cond.methodLinkNest RX3 35 yX5_init RX7, Cond.methodLinkNest RX3 36 yX0_init RX7, Cond.methodLinkNest RX4 17 yX1_init RX7, Cond.methodLinkNest RX6 17 yX1_init RX7], w ∈ lw_tbl := inAll (by decide +kernel)
theorem lw_K {s : State} {args : Array Value} (hts : ∀ w ∈ lw_tbl, w.before args s = true) : ∃ D : va_G, z_K D s := by
  obtain ⟨c0, i0, k0⟩ := u_known (n := 10) hts lwX0_in (hts _ (lw_ins _ (List.mem_of_getElem? (i := 0) rfl)))
  obtain ⟨c1, i1, k1⟩ := u_known (n := 5) hts lwX1_in (hts _ (lw_ins _ (List.mem_of_getElem? (i := 1) rfl)))
  obtain ⟨c2, i2, k2⟩ := u_known (n := 2) hts lwX2_in (hts _ (lw_ins _ (List.mem_of_getElem? (i := 2) rfl)))
  obtain ⟨c3, i3, k3⟩ := u_known (n := 10) hts lwX3_in (hts _ (lw_ins _ (List.mem_of_getElem? (i := 3) rfl)))
  obtain ⟨c4, i4, k4⟩ := u_known (n := 2) hts lwX4_in (hts _ (lw_ins _ (List.mem_of_getElem? (i := 4) rfl)))
  obtain ⟨c5, i5, k5⟩ := u_known (n := 7) hts lwX5_in (hts _ (lw_ins _ (List.mem_of_getElem? (i := 5) rfl)))
  obtain ⟨c6, i6, k6⟩ := u_known (n := 6) hts lwX6_in (hts _ (lw_ins _ (List.mem_of_getElem? (i := 6) rfl)))
  obtain ⟨c7, i7, k7⟩ := u_known (n := 5) hts lwX7_in (hts _ (lw_ins _ (List.mem_of_getElem? (i := 7) rfl)))
  have hK : va_K ((fun ci => match ci with | 0 => c0 | 1 => c1 | 2 => c2 | 3 => c3 | 4 => c4 | 5 => c5 | 6 => c6 | _ => c7), (fun ci => match ci with | 0 => i0 | 1 => i1 | 2 => i2 | 3 => i3 | 4 => i4 | 5 => i5 | 6 => i6 | _ => i7)) vwCl [] s := by
    refine ⟨fun c q h => ?_, fun k q h => by simp at h⟩
    cases c with
    | zero =>
      obtain rfl : (RX0, TX0, 10) = q := Option.some.inj h
      exact k0
    | succ c =>
      cases c with
      | zero =>
        obtain rfl : (RX1, TX1, 5) = q := Option.some.inj h
        exact k1
      | succ c =>
        cases c with
        | zero =>
          obtain rfl : (RX2, TX2, 2) = q := Option.some.inj h
          exact k2
        | succ c =>
          cases c with
          | zero =>
            obtain rfl : (RX3, TX3, 10) = q := Option.some.inj h
            exact k3
          | succ c =>
            cases c with
            | zero =>
              obtain rfl : (RX4, TX4, 2) = q := Option.some.inj h
              exact k4
            | succ c =>
              cases c with
              | zero =>
                obtain rfl : (RX5, TX5, 7) = q := Option.some.inj h
                exact k5
              | succ c =>
                cases c with
                | zero =>
                  obtain rfl : (RX6, TX6, 6) = q := Option.some.inj h
                  exact k6
                | succ c =>
                  cases c with
                  | zero =>
                    obtain rfl : (RX7, TX7, 5) = q := Option.some.inj h
                    exact k7
                  | succ c =>
                    exact absurd (show (none : Option vw_C) = some q from h) (fun z => by cases z)
  refine ⟨_, hK, fun ci r h => ?_, ⟨va_AO.of (hts _ (lw_aos _ (List.mem_of_getElem? (i := 0) rfl))), va_AO.of (hts _ (lw_aos _ (List.mem_of_getElem? (i := 1) rfl))), va_AO.of (hts _ (lw_aos _ (List.mem_of_getElem? (i := 2) rfl))), va_AO.of (hts _ (lw_aos _ (List.mem_of_getElem? (i := 3) rfl)))⟩, va_Nw.of rfl (hts _ (lw_kns _ (List.mem_of_getElem? (i := 0) rfl))), va_Nw.of rfl (hts _ (lw_kns _ (List.mem_of_getElem? (i := 1) rfl))), va_Nw.of rfl (hts _ (lw_kns _ (List.mem_of_getElem? (i := 2) rfl))), va_Nw.of rfl (hts _ (lw_kns _ (List.mem_of_getElem? (i := 3) rfl))), va_Nw.of rfl (hts _ (lw_kns _ (List.mem_of_getElem? (i := 4) rfl))), va_Nw.of rfl (hts _ (lw_kns _ (List.mem_of_getElem? (i := 5) rfl))), trivial⟩
  have hh := h
  cases ci with
  | zero =>
    obtain rfl : (RX0, TX0, 10) = r := Option.some.inj h
    exact va_apart (own := "") hts lwX0_in tyX0 tyX0_ok lwN0 hK hh
  | succ ci =>
    cases ci with
    | zero =>
      obtain rfl : (RX1, TX1, 5) = r := Option.some.inj h
      exact va_apart (own := "") hts lwX1_in tyX1 tyX1_ok lwN1 hK hh
    | succ ci =>
      cases ci with
      | zero =>
        obtain rfl : (RX2, TX2, 2) = r := Option.some.inj h
        exact va_apart (own := "") hts lwX2_in tyX2 tyX2_ok lwN2 hK hh
      | succ ci =>
        cases ci with
        | zero =>
          obtain rfl : (RX3, TX3, 10) = r := Option.some.inj h
          exact va_apart (own := "") hts lwX3_in tyX3 tyX3_ok lwN3 hK hh
        | succ ci =>
          cases ci with
          | zero =>
            obtain rfl : (RX4, TX4, 2) = r := Option.some.inj h
            exact va_apart (own := "") hts lwX4_in tyX4 tyX4_ok lwN4 hK hh
          | succ ci =>
            cases ci with
            | zero =>
              obtain rfl : (RX5, TX5, 7) = r := Option.some.inj h
              exact va_apart (own := "") hts lwX5_in tyX5 tyX5_ok lwN5 hK hh
            | succ ci =>
              cases ci with
              | zero =>
                obtain rfl : (RX6, TX6, 6) = r := Option.some.inj h
                exact va_apart (own := "") hts lwX6_in tyX6 tyX6_ok lwN6 hK hh
              | succ ci =>
                cases ci with
                | zero =>
                  obtain rfl : (RX7, TX7, 5) = r := Option.some.inj h
                  exact va_apart (own := "") hts lwX7_in tyX7 tyX7_ok lwN7 hK hh
                | succ ci =>
                  exact absurd (show (none : Option vw_C) = some r from h) (fun z => by cases z)
theorem hasRoom_le {s : State} {pl : Platform} (h : s.hasRoom pl room_1 = true) : s.hasRoom pl (z_rm (9, 604238, 7289534)) = true := by
  unfold State.hasRoom at h ⊢
  simp only [Bool.and_eq_true] at h ⊢
  obtain ⟨⟨⟨⟨b1, b2⟩, b3⟩, b4⟩, b5⟩ := h
  obtain ⟨a2, a3, a4, a5, a6⟩ := of_decide_eq_true b2
  have a1 := of_decide_eq_true b1
  have e : room_1.locals = 344 := rfl
  have ec : room_1.cells = 604238 := rfl
  have es : room_1.slots = 7289534 := rfl
  refine ⟨⟨⟨⟨decide_eq_true ?_, decide_eq_true ⟨a2, a3, ?_, ?_, a6⟩⟩, b3⟩, b4⟩, b5⟩
  · rw [e] at a1; omega
  · first | (rw [ec] at a4; omega) | (rw [e] at a4; omega) | exact a4
  · first | (rw [es] at a5; omega) | (rw [e] at a5; omega) | exact a5
