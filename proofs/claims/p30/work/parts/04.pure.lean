/-! small pure facts -/
theorem zI1 : nI 1 = 1 := by decide +kernel
theorem zI2 : nI 2 = 2 := by decide +kernel
theorem z_xorI (a b : Nat) : nI a ^^^ nI b = nI (a ^^^ b) := by
  apply Int32.toBitVec_inj.1
  show BitVec.ofNat 32 a ^^^ BitVec.ofNat 32 b = BitVec.ofNat 32 (a ^^^ b)
  apply BitVec.eq_of_getLsbD_eq
  intro i hi
  simp [hi]
theorem z_xor0 {a b : Nat} (ha : a < 2 ^ 31) (hb : b < 2 ^ 31) : 0 ≤ nI a ^^^ nI b := by
  rw [z_xorI]
  exact nI_pos' (Nat.xor_lt_two_pow ha hb)
/-- a counted loop, up: from i to N -/
theorem z_up {N : Nat} (P : Nat → Prop) (hN : P N) (hs : ∀ i, i < N → P (i + 1) → P i) : ∀ i, i ≤ N → P i := by
  intro i hi
  have h : ∀ d i, i + d = N → P i := by
    intro d
    induction d with
    | zero => intro i h; rw [show i = N by omega]; exact hN
    | succ d ih => intro i h; exact hs i (by omega) (ih (i + 1) (by omega))
  exact h (N - i) i (by omega)
/-- down: from i to 0 -/
theorem z_dn (P : Nat → Prop) (h0 : P 0) (hs : ∀ i, P i → P (i + 1)) : ∀ i, P i := by
  intro i
  induction i with
  | zero => exact h0
  | succ i ih => exact hs i ih
/-- with a state beside -/
theorem z_upS {σ : Type} {N : Nat} (P : Nat → σ → Prop) (hN : ∀ s, P N s) (hs : ∀ i, i < N → (∀ s, P (i + 1) s) → ∀ s, P i s) : ∀ i, i ≤ N → ∀ s, P i s := fun i hi => z_up (P := fun i => ∀ s, P i s) hN (fun i h k => hs i h k) i hi
theorem z_ifn {c : Prop} [Decidable c] {a b : Nat} : (if c then nI a else nI b) = nI (if c then a else b) := by split <;> rfl
/-- sums -/
def sumI (g : Nat → Int32) : Nat → Int32
  | 0 => 0
  | n + 1 => sumI g n + g n
theorem sumI_0 (g : Nat → Int32) : sumI g 0 = 0 := rfl
theorem sumI_s (g : Nat → Int32) (n : Nat) : sumI g (n + 1) = sumI g n + g n := rfl
theorem sumI_congr {g h : Nat → Int32} : ∀ {n : Nat}, (∀ i, i < n → g i = h i) → sumI g n = sumI h n
  | 0, _ => rfl
  | n + 1, hh => by rw [sumI_s, sumI_s, sumI_congr (fun i hi => hh i (by omega)), hh n (by omega)]
theorem z_vol {v : Nat} (h1 : 10 ≤ v) (h2 : v ≤ 10000) : ¬ (10 : Int64) * (nI v).toInt64 = 0 := by
  rw [nI_l (by omega)]
  have h : (10 : Int64) = lN 10 := by decide +kernel
  have h0 : (0 : Int64) = lN 0 := by decide +kernel
  rw [h, lN_mul, h0]
  intro q
  have := (lN_eq (by omega) (by omega)).mp q
  omega


