def uX (x : Int64) : Nat := x.toUInt64.toNat
theorem uX_lt (x : Int64) : uX x < 18446744073709551616 := x.toUInt64.toNat_lt
theorem uX_add (x y : Int64) : uX (x + y) = (uX x + uX y) % 18446744073709551616 := by
  show (x.toUInt64 + y.toUInt64).toNat = _
  exact UInt64.toNat_add _ _
theorem uX_and (x y : Int64) : uX (x &&& y) = uX x &&& uX y := by
  show (x.toUInt64 &&& y.toUInt64).toNat = _
  exact UInt64.toNat_and _ _
theorem uX_sub (x y : Int64) : uX (x - y) = (18446744073709551616 - uX y + uX x) % 18446744073709551616 := by
  show (x.toUInt64 - y.toUInt64).toNat = _
  exact UInt64.toNat_sub _ _
theorem uX_shr (x : Int64) (s : UInt64) : uX (x.toUInt64 >>> s).toInt64 = uX x / 2 ^ (s.toNat % 64) := by
  show (x.toUInt64 >>> s).toNat = _
  rw [UInt64.toNat_shiftRight, Nat.shiftRight_eq_div_pow]
  rfl
theorem btL_t (x : Int64) (k : Nat) : btL x k = decide (uX x / 2 ^ k % 2 = 1) := by
  show (x.toBitVec.toNat).testBit k = _
  rw [Nat.testBit_eq_decide_div_mod_eq]; rfl
theorem land_s (a c M i : Nat) (hc : c < 2 ^ i) : a &&& (c + 2 ^ i * M) = ((a % 2 ^ i) &&& c) + 2 ^ i * ((a / 2 ^ i) &&& M) := by
  have h1 : (a &&& (c + 2 ^ i * M)) % 2 ^ i = (a % 2 ^ i) &&& c := by
    rw [Nat.and_mod_two_pow, Nat.add_mul_mod_self_left, Nat.mod_eq_of_lt hc]
  have h2 : (a &&& (c + 2 ^ i * M)) / 2 ^ i = (a / 2 ^ i) &&& M := by
    rw [← Nat.shiftRight_eq_div_pow, Nat.shiftRight_and_distrib, Nat.shiftRight_eq_div_pow, Nat.shiftRight_eq_div_pow, Nat.add_mul_div_left _ _ (Nat.two_pow_pos i), Nat.div_eq_of_lt hc, Nat.zero_add]
  rw [← h1, ← h2]
  exact (Nat.mod_add_div _ _).symm
def mk (c : Nat) : Nat → Nat | 0 => 0 | n + 1 => c + 16 * mk c n
def mb : Nat → Nat | 0 => 0 | n + 1 => 15 + 256 * mb n
def dg (f : Nat → Nat) : Nat → Nat → Nat | 0, _ => 0 | n + 1, X => f (X % 16) + 16 * dg f n (X / 16)
def f1 (h : Nat) : Nat := h - (h / 2 &&& 5)
def pc (h : Nat) : Nat := h % 2 + h / 2 % 2 + h / 4 % 2 + h / 8 % 2
theorem f1_a : ∀ h, h < 16 → ∀ r, r < 2 → (h / 2 + 8 * r) &&& 5 = h / 2 &&& 5 := by decide +kernel
theorem f1_b : ∀ h, h < 16 → h / 2 &&& 5 ≤ h := by decide +kernel
theorem f1_c : ∀ h, h < 16 → f1 h < 16 ∧ (f1 h &&& 3) + (f1 h / 4 &&& 3) = pc h ∧ pc h ≤ 4 := by decide +kernel
theorem f2_a : ∀ z, z < 16 → ∀ r, r < 4 → (z / 4 + 4 * r) &&& 3 = z / 4 &&& 3 := by decide +kernel
theorem bc_1 : ∀ n X, X < 16 ^ n → X - (X / 2 &&& mk 5 n) = dg f1 n X ∧ X / 2 &&& mk 5 n ≤ X := by
  intro n
  induction n with
  | zero => intro X hX; have : X = 0 := by simpa using hX
            subst this; exact ⟨rfl, Nat.le_refl _⟩
  | succ n ih =>
    intro X hX
    obtain ⟨i1, i2⟩ := ih (X / 16) (by rw [Nat.pow_succ] at hX; omega)
    have e : X / 2 &&& mk 5 (n + 1) = (X % 16 / 2 &&& 5) + 16 * (X / 16 / 2 &&& mk 5 n) := by
      have := land_s (X / 2) 5 (mk 5 n) 4 (by decide)
      have e1 : X / 2 % 2 ^ 4 = X % 16 / 2 + 8 * (X / 16 % 2) := by omega
      have e2 : X / 2 / 2 ^ 4 = X / 16 / 2 := by omega
      rw [e1, e2, f1_a _ (by omega) _ (by omega)] at this
      exact this
    have hb := f1_b (X % 16) (by omega)
    rw [e]
    show _ = f1 (X % 16) + 16 * dg f1 n (X / 16) ∧ _
    rw [← i1]
    unfold f1
    omega
theorem bc_2 : ∀ n X, (dg f1 n X &&& mk 3 n) + (dg f1 n X / 4 &&& mk 3 n) = dg pc n X := by
  intro n
  induction n with
  | zero => intro X; simp [dg, mk]
  | succ n ih =>
    intro X
    obtain ⟨c1, c2, c3⟩ := f1_c (X % 16) (by omega)
    have e0 : dg f1 (n + 1) X = f1 (X % 16) + 16 * dg f1 n (X / 16) := rfl
    have a := land_s (dg f1 (n + 1) X) 3 (mk 3 n) 4 (by decide)
    have b := land_s (dg f1 (n + 1) X / 4) 3 (mk 3 n) 4 (by decide)
    have a1 : dg f1 (n + 1) X % 2 ^ 4 = f1 (X % 16) := by rw [e0]; omega
    have a2 : dg f1 (n + 1) X / 2 ^ 4 = dg f1 n (X / 16) := by rw [e0]; omega
    have b1 : dg f1 (n + 1) X / 4 % 2 ^ 4 = f1 (X % 16) / 4 + 4 * (dg f1 n (X / 16) % 4) := by rw [e0]; omega
    have b2 : dg f1 (n + 1) X / 4 / 2 ^ 4 = dg f1 n (X / 16) / 4 := by rw [e0]; omega
    rw [a1, a2] at a
    rw [b1, b2, f2_a _ c1 _ (by omega)] at b
    have e3 : mk 3 (n + 1) = 3 + 2 ^ 4 * mk 3 n := rfl
    rw [e3, a, b]
    have := ih (X / 16)
    show _ = pc (X % 16) + 16 * dg pc n (X / 16)
    rw [← this, ← c2]
    omega
