theorem bq_1 {a R : Nat} (ha : a ≤ 8) : (a + 256 * R) / 256 = R := by omega
theorem bq_2 {l Z : Nat} (hl : l < 65536) : (l + 65536 * Z) / 65536 = Z := by omega
theorem bq_3 {l Z : Nat} (hl : l < 4294967296) : (l + 4294967296 * Z) / 4294967296 = Z := by omega
theorem bq_m {a b : Nat} (ha : a < 9223372036854775808) (hb : b < 9223372036854775808) : (a + b) % 18446744073709551616 = a + b := by omega
theorem bq_b {a R M : Nat} (ha : a ≤ 8) (hR : R ≤ M) : a + 256 * R ≤ 8 + 256 * M := by omega
theorem bq_r {l Z : Nat} (hl : l < 128) : (l + 256 * Z) % 4294967296 % 128 = l := by omega
theorem bq_4 (a0 a1 a2 R3 : Nat) : a0 + 256 * (a1 + 256 * (a2 + 256 * R3)) + (a1 + 256 * (a2 + 256 * R3)) = ((a0 + a1) + 256 * (a1 + a2)) + 65536 * ((a2 + 256 * R3) + R3) := by omega
theorem bq_5 (a0 a1 a2 a3 a4 a5 a6 a7 : Nat) : ((a0 + a1) + 256 * (a1 + a2)) + 65536 * ((a2 + 256 * (a3 + 256 * (a4 + 256 * (a5 + 256 * (a6 + 256 * a7))))) + (a3 + 256 * (a4 + 256 * (a5 + 256 * (a6 + 256 * a7))))) + ((a2 + 256 * (a3 + 256 * (a4 + 256 * (a5 + 256 * (a6 + 256 * a7))))) + (a3 + 256 * (a4 + 256 * (a5 + 256 * (a6 + 256 * a7))))) = (((a0 + a1 + a2 + a3) + 256 * (a1 + a2 + a3 + a4)) + 65536 * ((a2 + a3 + a4 + a5) + 256 * (a3 + a4 + a5 + a6))) + 4294967296 * ((a4 + 256 * (a5 + 256 * (a6 + 256 * a7))) + (a5 + 256 * (a6 + 256 * a7)) + (a6 + 256 * a7) + a7) := by omega
theorem bq_6 (a0 a1 a2 a3 a4 a5 a6 a7 : Nat) : (((a0 + a1 + a2 + a3) + 256 * (a1 + a2 + a3 + a4)) + 65536 * ((a2 + a3 + a4 + a5) + 256 * (a3 + a4 + a5 + a6))) + 4294967296 * ((a4 + 256 * (a5 + 256 * (a6 + 256 * a7))) + (a5 + 256 * (a6 + 256 * a7)) + (a6 + 256 * a7) + a7) + ((a4 + 256 * (a5 + 256 * (a6 + 256 * a7))) + (a5 + 256 * (a6 + 256 * a7)) + (a6 + 256 * a7) + a7) = (a0 + a1 + a2 + a3 + a4 + a5 + a6 + a7) + 256 * ((a1 + a2 + a3 + a4) + 256 * ((a2 + a3 + a4 + a5) + 256 * (a3 + a4 + a5 + a6)) + 16777216 * ((a4 + 256 * (a5 + 256 * (a6 + 256 * a7))) + (a5 + 256 * (a6 + 256 * a7)) + (a6 + 256 * a7) + a7) + ((a5 + 256 * (a6 + 256 * a7)) + (a6 + 256 * a7) + a7)) := by omega
theorem bq_7 (a0 a1 a2 : Nat) (b0 : a0 ≤ 8) (b1 : a1 ≤ 8) (b2 : a2 ≤ 8) : (a0 + a1) + 256 * (a1 + a2) < 65536 := by omega
theorem bq_8 (a0 a1 a2 a3 a4 a5 a6 : Nat) (b0 : a0 ≤ 8) (b1 : a1 ≤ 8) (b2 : a2 ≤ 8) (b3 : a3 ≤ 8) (b4 : a4 ≤ 8) (b5 : a5 ≤ 8) (b6 : a6 ≤ 8) : ((a0 + a1 + a2 + a3) + 256 * (a1 + a2 + a3 + a4)) + 65536 * ((a2 + a3 + a4 + a5) + 256 * (a3 + a4 + a5 + a6)) < 4294967296 := by omega
theorem bq_9 (a0 a1 a2 a3 a4 a5 a6 a7 : Nat) (b0 : a0 ≤ 8) (b1 : a1 ≤ 8) (b2 : a2 ≤ 8) (b3 : a3 ≤ 8) (b4 : a4 ≤ 8) (b5 : a5 ≤ 8) (b6 : a6 ≤ 8) (b7 : a7 ≤ 8) : a0 + a1 + a2 + a3 + a4 + a5 + a6 + a7 < 128 := by omega
theorem bc_4 {a0 a1 a2 a3 a4 a5 a6 a7 y3 y4 y5 y6 : Nat} (b0 : a0 ≤ 8) (b1 : a1 ≤ 8) (b2 : a2 ≤ 8) (b3 : a3 ≤ 8) (b4 : a4 ≤ 8) (b5 : a5 ≤ 8) (b6 : a6 ≤ 8) (b7 : a7 ≤ 8)
    (h3 : y3 = a0 + 256 * (a1 + 256 * (a2 + 256 * (a3 + 256 * (a4 + 256 * (a5 + 256 * (a6 + 256 * a7))))))) (h4 : y4 = (y3 + y3 / 256) % 18446744073709551616)
    (h5 : y5 = (y4 + y4 / 65536) % 18446744073709551616) (h6 : y6 = (y5 + y5 / 4294967296) % 18446744073709551616) : y6 % 4294967296 % 128 = a0 + a1 + a2 + a3 + a4 + a5 + a6 + a7 := by
  obtain ⟨R6, r6⟩ : ∃ R, R = a6 + 256 * a7 := ⟨_, rfl⟩
  obtain ⟨R5, r5⟩ : ∃ R, R = a5 + 256 * R6 := ⟨_, rfl⟩
  obtain ⟨R4, r4⟩ : ∃ R, R = a4 + 256 * R5 := ⟨_, rfl⟩
  obtain ⟨R3, r3⟩ : ∃ R, R = a3 + 256 * R4 := ⟨_, rfl⟩
  obtain ⟨R2, r2⟩ : ∃ R, R = a2 + 256 * R3 := ⟨_, rfl⟩
  obtain ⟨R1, r1⟩ : ∃ R, R = a1 + 256 * R2 := ⟨_, rfl⟩
  rw [← r6, ← r5, ← r4, ← r3, ← r2, ← r1] at h3
  have c6 : R6 ≤ 8 + 256 * 8 := r6 ▸ bq_b b6 b7
  have c5 : R5 ≤ 8 + 256 * (8 + 256 * 8) := r5 ▸ bq_b b5 c6
  have c4 : R4 ≤ 8 + 256 * (8 + 256 * (8 + 256 * 8)) := r4 ▸ bq_b b4 c5
  have c3 : R3 ≤ 8 + 256 * (8 + 256 * (8 + 256 * (8 + 256 * 8))) := r3 ▸ bq_b b3 c4
  have c2 : R2 ≤ 8 + 256 * (8 + 256 * (8 + 256 * (8 + 256 * (8 + 256 * 8)))) := r2 ▸ bq_b b2 c3
  have c1 : R1 ≤ 8 + 256 * (8 + 256 * (8 + 256 * (8 + 256 * (8 + 256 * (8 + 256 * 8))))) := r1 ▸ bq_b b1 c2
  have c0 : y3 ≤ 8 + 256 * (8 + 256 * (8 + 256 * (8 + 256 * (8 + 256 * (8 + 256 * (8 + 256 * 8)))))) := h3 ▸ bq_b b0 c1
  have d3 : y3 / 256 = R1 := by rw [h3]; exact bq_1 b0
  have e4 : y4 = y3 + R1 := by
    rw [h4, d3]
    exact bq_m (Nat.lt_of_le_of_lt c0 (by decide)) (Nat.lt_of_le_of_lt c1 (by decide))
  have f4 : y4 = ((a0 + a1) + 256 * (a1 + a2)) + 65536 * (R2 + R3) := by
    rw [e4, h3, r1, r2]
    exact bq_4 _ _ _ _
  have d4 : y4 / 65536 = R2 + R3 := by rw [f4]; exact bq_2 (bq_7 _ _ _ b0 b1 b2)
  have e5 : y5 = y4 + (R2 + R3) := by
    rw [h5, d4]
    exact bq_m (by rw [e4]; exact Nat.lt_of_le_of_lt (Nat.add_le_add c0 c1) (by decide)) (Nat.lt_of_le_of_lt (Nat.add_le_add c2 c3) (by decide))
  have f5 : y5 = (((a0 + a1 + a2 + a3) + 256 * (a1 + a2 + a3 + a4)) + 65536 * ((a2 + a3 + a4 + a5) + 256 * (a3 + a4 + a5 + a6))) + 4294967296 * (R4 + R5 + R6 + a7) := by
    rw [e5, f4, r2, r3, r4, r5, r6]
    exact bq_5 _ _ _ _ _ _ _ _
  have d5 : y5 / 4294967296 = R4 + R5 + R6 + a7 := by rw [f5]; exact bq_3 (bq_8 _ _ _ _ _ _ _ b0 b1 b2 b3 b4 b5 b6)
  have e6 : y6 = y5 + (R4 + R5 + R6 + a7) := by
    rw [h6, d5]
    refine bq_m ?_ (Nat.lt_of_le_of_lt (Nat.add_le_add (Nat.add_le_add (Nat.add_le_add c4 c5) c6) b7) (by decide))
    rw [e5, e4]
    exact Nat.lt_of_le_of_lt (Nat.add_le_add (Nat.add_le_add c0 c1) (Nat.add_le_add c2 c3)) (by decide)
  have f6 : y6 = (a0 + a1 + a2 + a3 + a4 + a5 + a6 + a7) + 256 * ((a1 + a2 + a3 + a4) + 256 * ((a2 + a3 + a4 + a5) + 256 * (a3 + a4 + a5 + a6)) + 16777216 * (R4 + R5 + R6 + a7) + (R5 + R6 + a7)) := by
    rw [e6, f5, r4, r5, r6]
    exact bq_6 _ _ _ _ _ _ _ _
  rw [f6]
  exact bq_r (bq_9 _ _ _ _ _ _ _ _ b0 b1 b2 b3 b4 b5 b6 b7)
theorem db_s (n X : Nat) : db (n + 1) X = (pc (X % 16) + pc (X / 16 % 16)) + 256 * db n (X / 16 / 16) := rfl
theorem db_0 (X : Nat) : db 0 X = 0 := rfl
theorem cb_0 (X : Nat) : cb 0 X = 0 := rfl
theorem pc_8 (Y : Nat) : pc (Y % 16) + pc (Y / 16 % 16) ≤ 8 := by
  have a := (f1_c (Y % 16) (by omega)).2.2
  have b := (f1_c (Y / 16 % 16) (by omega)).2.2
  omega
theorem db_cb (X : Nat) : ∃ a0 a1 a2 a3 a4 a5 a6 a7 : Nat, a0 ≤ 8 ∧ a1 ≤ 8 ∧ a2 ≤ 8 ∧ a3 ≤ 8 ∧ a4 ≤ 8 ∧ a5 ≤ 8 ∧ a6 ≤ 8 ∧ a7 ≤ 8 ∧
    db 8 X = a0 + 256 * (a1 + 256 * (a2 + 256 * (a3 + 256 * (a4 + 256 * (a5 + 256 * (a6 + 256 * a7)))))) ∧ cb 64 X = a0 + a1 + a2 + a3 + a4 + a5 + a6 + a7 := by
  refine ⟨_, _, _, _, _, _, _, _, pc_8 X, pc_8 (X / 16 / 16), pc_8 (X / 16 / 16 / 16 / 16), pc_8 (X / 16 / 16 / 16 / 16 / 16 / 16), pc_8 (X / 16 / 16 / 16 / 16 / 16 / 16 / 16 / 16), pc_8 (X / 16 / 16 / 16 / 16 / 16 / 16 / 16 / 16 / 16 / 16), pc_8 (X / 16 / 16 / 16 / 16 / 16 / 16 / 16 / 16 / 16 / 16 / 16 / 16), pc_8 (X / 16 / 16 / 16 / 16 / 16 / 16 / 16 / 16 / 16 / 16 / 16 / 16 / 16 / 16), ?_, ?_⟩
  · rw [db_s 7, db_s 6, db_s 5, db_s 4, db_s 3, db_s 2, db_s 1, db_s 0, db_0, Nat.mul_zero, Nat.add_zero]
  · rw [cb_8 56, cb_8 48, cb_8 40, cb_8 32, cb_8 24, cb_8 16, cb_8 8, cb_8 0, cb_0, Nat.add_zero]
    simp only [Nat.add_assoc]
theorem bc_a {X M A : Nat} (hX : X < 18446744073709551616) (h1 : X - M = A) (h2 : M ≤ X) : (18446744073709551616 - M + X) % 18446744073709551616 = A := by omega
theorem bc_b {P D : Nat} (h : P = D) (hD : D < 5764607523034234880) : P % 18446744073709551616 = D := by omega
theorem bc_c {D : Nat} (hD : D < 5764607523034234880) : (D + D / 16) % 18446744073709551616 = D + D / 16 := by omega
theorem bc_d {Z : Nat} (h : 15 * Z ≤ 4 * (16 ^ 16 - 1)) : Z < 5764607523034234880 := by omega
theorem dg_le : ∀ n Y, 15 * dg pc n Y ≤ 4 * (16 ^ n - 1) := by
  intro n
  induction n with
  | zero => intro Y; show 15 * 0 ≤ 0; omega
  | succ n ih =>
    intro Y
    have a := (f1_c (Y % 16) (by omega)).2.2
    have b := ih (Y / 16)
    have c : 0 < 16 ^ n := Nat.pow_pos (by decide)
    show 15 * (pc (Y % 16) + 16 * dg pc n (Y / 16)) ≤ _
    rw [Nat.pow_succ]; omega
theorem m5_v : uX (6148914691236517205 : Int64) = mk 5 16 := by decide +kernel
theorem m3_v : uX (3689348814741910323 : Int64) = mk 3 16 := by decide +kernel
theorem mf_v : uX (1085102592571150095 : Int64) = mb 8 := by decide +kernel
/-- what the JDK's bit count answers -/
theorem bitCount (σ : St) (x : Int64) : mJ13_bitCount_95d88 σ x = some (nI (cb 64 (uX x))) := by
  obtain ⟨X, hX⟩ : ∃ X, X = uX x := ⟨_, rfl⟩
  have hX64 : X < 18446744073709551616 := by rw [hX]; exact uX_lt x
  rw [← hX]
  have i12 := bc_1 16 X hX64
  have i3 := bc_2 16 X
  have i4 : (dg pc 16 X + dg pc 16 X / 16) &&& mb 8 = db 8 X := bc_3 8 X
  have hD := bc_d (dg_le 16 X)
  obtain ⟨a0, a1, a2, a3, a4, a5, a6, a7, b0, b1, b2, b3, b4, b5, b6, b7, hdb, hcb⟩ := db_cb X
  have m5 := m5_v
  have m3 := m3_v
  have mf := mf_v
  generalize dg f1 16 X = A at i12 i3
  generalize dg pc 16 X = D at i3 i4 hD
  generalize db 8 X = E at i4 hdb
  generalize cb 64 X = C at hcb ⊢
  generalize mk 5 16 = M5 at i12 m5
  generalize mk 3 16 = M3 at i3 m3
  generalize mb 8 = MF at i4 mf
  have s1 : ((1 : Int32).toInt64.toUInt64 &&& Int64.toUInt64 63).toNat % 64 = 1 := by decide
  have s2 : ((2 : Int32).toInt64.toUInt64 &&& Int64.toUInt64 63).toNat % 64 = 2 := by decide
  have s4 : ((4 : Int32).toInt64.toUInt64 &&& Int64.toUInt64 63).toNat % 64 = 4 := by decide
  have s8 : ((8 : Int32).toInt64.toUInt64 &&& Int64.toUInt64 63).toNat % 64 = 8 := by decide
  have s16 : ((16 : Int32).toInt64.toUInt64 &&& Int64.toUInt64 63).toNat % 64 = 16 := by decide
  have s32 : ((32 : Int32).toInt64.toUInt64 &&& Int64.toUInt64 63).toNat % 64 = 32 := by decide
  unfold mJ13_bitCount_95d88
  simp only [bnd_e]
  obtain ⟨x1, h1⟩ : ∃ v, v = x - (((x.toUInt64 >>> ((1 : Int32).toInt64.toUInt64 &&& Int64.toUInt64 63)).toInt64) &&& 6148914691236517205) := ⟨_, rfl⟩
  have u1 : uX x1 = A := by
    rw [h1, uX_sub, uX_and, uX_shr, m5, s1, ← hX]
    exact bc_a hX64 i12.1 i12.2
  rw [← h1]
  obtain ⟨x2, h2⟩ : ∃ v, v = (x1 &&& 3689348814741910323) + (((x1.toUInt64 >>> ((2 : Int32).toInt64.toUInt64 &&& Int64.toUInt64 63)).toInt64) &&& 3689348814741910323) := ⟨_, rfl⟩
  have u2 : uX x2 = D := by
    rw [h2, uX_add, uX_and, uX_and, uX_shr, m3, s2, u1]
    exact bc_b i3 hD
  rw [← h2]
  obtain ⟨x3, h3⟩ : ∃ v, v = (x2 + ((x2.toUInt64 >>> ((4 : Int32).toInt64.toUInt64 &&& Int64.toUInt64 63)).toInt64)) &&& 1085102592571150095 := ⟨_, rfl⟩
  have u3 : uX x3 = E := by
    rw [h3, uX_and, uX_add, uX_shr, mf, s4, u2]
    have e2 : (2 : Nat) ^ 4 = 16 := rfl
    rw [e2, bc_c hD]
    exact i4
  rw [← h3]
  obtain ⟨x4, h4⟩ : ∃ v, v = x3 + ((x3.toUInt64 >>> ((8 : Int32).toInt64.toUInt64 &&& Int64.toUInt64 63)).toInt64) := ⟨_, rfl⟩
  have u4 : uX x4 = (uX x3 + uX x3 / 256) % 18446744073709551616 := by rw [h4, uX_add, uX_shr, s8]
  rw [← h4]
  obtain ⟨x5, h5⟩ : ∃ v, v = x4 + ((x4.toUInt64 >>> ((16 : Int32).toInt64.toUInt64 &&& Int64.toUInt64 63)).toInt64) := ⟨_, rfl⟩
  have u5 : uX x5 = (uX x4 + uX x4 / 65536) % 18446744073709551616 := by rw [h5, uX_add, uX_shr, s16]
  rw [← h5]
  obtain ⟨x6, h6⟩ : ∃ v, v = x5 + ((x5.toUInt64 >>> ((32 : Int32).toInt64.toUInt64 &&& Int64.toUInt64 63)).toInt64) := ⟨_, rfl⟩
  have u6 : uX x6 = (uX x5 + uX x5 / 4294967296) % 18446744073709551616 := by rw [h6, uX_add, uX_shr, s32]
  rw [← h6, hcb, ← bc_4 b0 b1 b2 b3 b4 b5 b6 b7 (u3.trans hdb) u4 u5 u6]
  have q : (x6.toInt32 &&& 127 : Int32) = nI (x6.toInt32.toBitVec.toNat % 2 ^ 7) := pk_and _ 7 (by decide)
  rw [q]
  have e7 : x6.toInt32.toBitVec.toNat = uX x6 % 4294967296 := by
    show (x6.toBitVec.signExtend 32).toNat = _
    rw [BitVec.signExtend_eq_setWidth_of_le _ (by decide), BitVec.toNat_setWidth]; rfl
  rw [e7]
