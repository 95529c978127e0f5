def db : Nat → Nat → Nat | 0, _ => 0 | n + 1, X => (pc (X % 16) + pc (X / 16 % 16)) + 256 * db n (X / 16 / 16)
theorem and15 : ∀ z, z < 16 → z &&& 15 = z := by decide +kernel
theorem bc_3 : ∀ n X, (dg pc (2 * n) X + dg pc (2 * n) X / 16) &&& mb n = db n X := by
  intro n
  induction n with
  | zero => intro X; simp [dg, mb, db]
  | succ n ih =>
    intro X
    have e0 : dg pc (2 * (n + 1)) X = pc (X % 16) + 16 * (pc (X / 16 % 16) + 16 * dg pc (2 * n) (X / 16 / 16)) := rfl
    obtain ⟨_, _, p1⟩ := f1_c (X % 16) (by omega)
    obtain ⟨_, _, p2⟩ := f1_c (X / 16 % 16) (by omega)
    have p3 : dg pc (2 * n) (X / 16 / 16) % 16 ≤ 4 := by
      cases n with
      | zero => show 0 % 16 ≤ 4; omega
      | succ n =>
        have : dg pc (2 * (n + 1)) (X / 16 / 16) = pc (X / 16 / 16 % 16) + 16 * dg pc (2 * n + 1) (X / 16 / 16 / 16) := rfl
        obtain ⟨_, _, p⟩ := f1_c (X / 16 / 16 % 16) (by omega)
        omega
    generalize hZ : dg pc (2 * n) (X / 16 / 16) = Z at e0 p3
    have a := land_s (dg pc (2 * (n + 1)) X + dg pc (2 * (n + 1)) X / 16) 15 (mb n) 8 (by decide)
    have a1 : (dg pc (2 * (n + 1)) X + dg pc (2 * (n + 1)) X / 16) % 2 ^ 8 = (pc (X % 16) + pc (X / 16 % 16)) + 16 * (pc (X / 16 % 16) + Z % 16) := by rw [e0]; omega
    have a2 : (dg pc (2 * (n + 1)) X + dg pc (2 * (n + 1)) X / 16) / 2 ^ 8 = Z + Z / 16 := by rw [e0]; omega
    have a3 : ((pc (X % 16) + pc (X / 16 % 16)) + 16 * (pc (X / 16 % 16) + Z % 16)) &&& 15 = pc (X % 16) + pc (X / 16 % 16) := by
      have l := land_s ((pc (X % 16) + pc (X / 16 % 16)) + 16 * (pc (X / 16 % 16) + Z % 16)) 15 0 4 (by decide)
      rw [Nat.mul_zero, Nat.add_zero, Nat.and_zero, Nat.mul_zero, Nat.add_zero] at l
      rw [l]
      have : ((pc (X % 16) + pc (X / 16 % 16)) + 16 * (pc (X / 16 % 16) + Z % 16)) % 2 ^ 4 = pc (X % 16) + pc (X / 16 % 16) := by omega
      rw [this, and15 _ (by omega)]
    rw [a1, a2, a3] at a
    have := ih (X / 16 / 16)
    rw [hZ] at this
    rw [this] at a
    exact a
def cb : Nat → Nat → Nat | 0, _ => 0 | n + 1, X => X % 2 + cb n (X / 2)
theorem cb_4 (n X : Nat) : cb (n + 4) X = pc (X % 16) + cb n (X / 16) := by
  show X % 2 + (X / 2 % 2 + (X / 2 / 2 % 2 + (X / 2 / 2 / 2 % 2 + cb n (X / 2 / 2 / 2 / 2)))) = _
  have e : X / 2 / 2 / 2 / 2 = X / 16 := by omega
  rw [e]; unfold pc; omega
theorem cb_8 (n X : Nat) : cb (n + 8) X = (pc (X % 16) + pc (X / 16 % 16)) + cb n (X / 16 / 16) := by
  rw [cb_4 (n + 4), cb_4]; omega
