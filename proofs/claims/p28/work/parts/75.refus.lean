theorem reach_rel {F T L B O : Nat} {σ τ : St} (h : VV F T L B O σ τ) (hh : RH F T σ τ) {kd : Nat} (hk : kd ≤ 3) (x : Int32) : ∃ c : Bool, mX4_reaches σ (nI kd) x = some (zB c) ∧ mX8_isReference τ (nI kd) x = some (zB c) ∧
    (c = true → (kd = 1 → ∃ j, j < L ∧ x = nI j) ∧ (kd = 2 → ∃ b, b < B ∧ x = nI b ∧ ∃ i, i < L ∧ τ.1 26 b = nI i) ∧ (kd = 3 → ∃ t, t < T ∧ x = nI t)) := by
  have hk4 : kd = 0 ∨ kd = 1 ∨ kd = 2 ∨ kd = 3 := by omega
  rcases hk4 with rfl | rfl | rfl | rfl
  · exact ⟨true, by rw [zB_1]; simp (implicitDefEqProofs := false) (disch := omega) only [mX4_reaches, ↓bnd_e, ↓ob_s, ob_s, su_1, su_2, sl_1, sl_2, ↓ck_n, ck_n, ck_Z0, ck_Z1, c_lt, c_le, c_eq, ng_1, m_ne, m_en, m_lt, m_le, m_gt, m_ge, n_add, n_mul, n_sub, n_sm, n_pm, n_0m, n_cl, Nat.reduceEqDiff, ↓reduceIte, nle_T, nle_F, nlt_T, nlt_F, neq_F, neq_T, if_true, if_false, true_and, and_true, Nat.mul_zero, Nat.zero_add, Nat.add_zero, Nat.reduceAdd, Nat.reduceMul, Nat.reduceSub, li_0, li_1, li_2, li_3, li_4, li_5, li_6, li_7, li_8, li_9, li_10, li_11, li_12, li_13, li_14, li_15, li_16, li_20, li_24, li_28, li_31, li_35, li_38, li_40, li_41, li_45, li_48, li_60, li_62, li_63, li_97, li_100, li_104, li_105, li_120, li_124, li_127, li_180, li_239, li_240, li_255, li_256, li_300, li_400, li_960, li_1000000], by rw [zB_1]; simp (implicitDefEqProofs := false) (disch := omega) only [mX8_isReference, ↓bnd_e, ↓ob_s, ob_s, su_1, su_2, sl_1, sl_2, ↓ck_n, ck_n, ck_Z0, ck_Z1, c_lt, c_le, c_eq, ng_1, m_ne, m_en, m_lt, m_le, m_gt, m_ge, n_add, n_mul, n_sub, n_sm, n_pm, n_0m, n_cl, Nat.reduceEqDiff, ↓reduceIte, nle_T, nle_F, nlt_T, nlt_F, neq_F, neq_T, if_true, if_false, true_and, and_true, Nat.mul_zero, Nat.zero_add, Nat.add_zero, Nat.reduceAdd, Nat.reduceMul, Nat.reduceSub, li_0, li_1, li_2, li_3, li_4, li_5, li_6, li_7, li_8, li_9, li_10, li_11, li_12, li_13, li_14, li_15, li_16, li_20, li_24, li_28, li_31, li_35, li_38, li_40, li_41, li_45, li_48, li_60, li_62, li_63, li_97, li_100, li_104, li_105, li_120, li_124, li_127, li_180, li_239, li_240, li_255, li_256, li_300, li_400, li_960, li_1000000], fun _ => ⟨fun h => by omega, fun h => by omega, fun h => by omega⟩⟩
  · obtain ⟨c, c1, c2, c3⟩ := seen_line h x
    refine ⟨c, ?_, ?_, fun e => ⟨fun _ => c3 e, fun h => by omega, fun h => by omega⟩⟩
    · cases c
      · rw [zB_0] at c1 ⊢
        simp (implicitDefEqProofs := false) (disch := omega) only [mX4_reaches, c1, ↓bnd_e, ↓ob_s, ob_s, su_1, su_2, sl_1, sl_2, ↓ck_n, ck_n, ck_Z0, ck_Z1, c_lt, c_le, c_eq, ng_1, m_ne, m_en, m_lt, m_le, m_gt, m_ge, n_add, n_mul, n_sub, n_sm, n_pm, n_0m, n_cl, Nat.reduceEqDiff, ↓reduceIte, nle_T, nle_F, nlt_T, nlt_F, neq_F, neq_T, if_true, if_false, true_and, and_true, Nat.mul_zero, Nat.zero_add, Nat.add_zero, Nat.reduceAdd, Nat.reduceMul, Nat.reduceSub, li_0, li_1, li_2, li_3, li_4, li_5, li_6, li_7, li_8, li_9, li_10, li_11, li_12, li_13, li_14, li_15, li_16, li_20, li_24, li_28, li_31, li_35, li_38, li_40, li_41, li_45, li_48, li_60, li_62, li_63, li_97, li_100, li_104, li_105, li_120, li_124, li_127, li_180, li_239, li_240, li_255, li_256, li_300, li_400, li_960, li_1000000]
      · rw [zB_1] at c1 ⊢
        simp (implicitDefEqProofs := false) (disch := omega) only [mX4_reaches, c1, ↓bnd_e, ↓ob_s, ob_s, su_1, su_2, sl_1, sl_2, ↓ck_n, ck_n, ck_Z0, ck_Z1, c_lt, c_le, c_eq, ng_1, m_ne, m_en, m_lt, m_le, m_gt, m_ge, n_add, n_mul, n_sub, n_sm, n_pm, n_0m, n_cl, Nat.reduceEqDiff, ↓reduceIte, nle_T, nle_F, nlt_T, nlt_F, neq_F, neq_T, if_true, if_false, true_and, and_true, Nat.mul_zero, Nat.zero_add, Nat.add_zero, Nat.reduceAdd, Nat.reduceMul, Nat.reduceSub, li_0, li_1, li_2, li_3, li_4, li_5, li_6, li_7, li_8, li_9, li_10, li_11, li_12, li_13, li_14, li_15, li_16, li_20, li_24, li_28, li_31, li_35, li_38, li_40, li_41, li_45, li_48, li_60, li_62, li_63, li_97, li_100, li_104, li_105, li_120, li_124, li_127, li_180, li_239, li_240, li_255, li_256, li_300, li_400, li_960, li_1000000]
    · cases c
      · rw [zB_0] at c2 ⊢
        simp (implicitDefEqProofs := false) (disch := omega) only [mX8_isReference, c2, ↓bnd_e, ↓ob_s, ob_s, su_1, su_2, sl_1, sl_2, ↓ck_n, ck_n, ck_Z0, ck_Z1, c_lt, c_le, c_eq, ng_1, m_ne, m_en, m_lt, m_le, m_gt, m_ge, n_add, n_mul, n_sub, n_sm, n_pm, n_0m, n_cl, Nat.reduceEqDiff, ↓reduceIte, nle_T, nle_F, nlt_T, nlt_F, neq_F, neq_T, if_true, if_false, true_and, and_true, Nat.mul_zero, Nat.zero_add, Nat.add_zero, Nat.reduceAdd, Nat.reduceMul, Nat.reduceSub, li_0, li_1, li_2, li_3, li_4, li_5, li_6, li_7, li_8, li_9, li_10, li_11, li_12, li_13, li_14, li_15, li_16, li_20, li_24, li_28, li_31, li_35, li_38, li_40, li_41, li_45, li_48, li_60, li_62, li_63, li_97, li_100, li_104, li_105, li_120, li_124, li_127, li_180, li_239, li_240, li_255, li_256, li_300, li_400, li_960, li_1000000]
      · rw [zB_1] at c2 ⊢
        simp (implicitDefEqProofs := false) (disch := omega) only [mX8_isReference, c2, ↓bnd_e, ↓ob_s, ob_s, su_1, su_2, sl_1, sl_2, ↓ck_n, ck_n, ck_Z0, ck_Z1, c_lt, c_le, c_eq, ng_1, m_ne, m_en, m_lt, m_le, m_gt, m_ge, n_add, n_mul, n_sub, n_sm, n_pm, n_0m, n_cl, Nat.reduceEqDiff, ↓reduceIte, nle_T, nle_F, nlt_T, nlt_F, neq_F, neq_T, if_true, if_false, true_and, and_true, Nat.mul_zero, Nat.zero_add, Nat.add_zero, Nat.reduceAdd, Nat.reduceMul, Nat.reduceSub, li_0, li_1, li_2, li_3, li_4, li_5, li_6, li_7, li_8, li_9, li_10, li_11, li_12, li_13, li_14, li_15, li_16, li_20, li_24, li_28, li_31, li_35, li_38, li_40, li_41, li_45, li_48, li_60, li_62, li_63, li_97, li_100, li_104, li_105, li_120, li_124, li_127, li_180, li_239, li_240, li_255, li_256, li_300, li_400, li_960, li_1000000]
  · obtain ⟨c, c1, c2, c3⟩ := seen_box h x
    refine ⟨c, ?_, ?_, fun e => ⟨fun h => by omega, fun _ => c3 e, fun h => by omega⟩⟩
    · cases c
      · rw [zB_0] at c1 ⊢
        simp (implicitDefEqProofs := false) (disch := omega) only [mX4_reaches, c1, ↓bnd_e, ↓ob_s, ob_s, su_1, su_2, sl_1, sl_2, ↓ck_n, ck_n, ck_Z0, ck_Z1, c_lt, c_le, c_eq, ng_1, m_ne, m_en, m_lt, m_le, m_gt, m_ge, n_add, n_mul, n_sub, n_sm, n_pm, n_0m, n_cl, Nat.reduceEqDiff, ↓reduceIte, nle_T, nle_F, nlt_T, nlt_F, neq_F, neq_T, if_true, if_false, true_and, and_true, Nat.mul_zero, Nat.zero_add, Nat.add_zero, Nat.reduceAdd, Nat.reduceMul, Nat.reduceSub, li_0, li_1, li_2, li_3, li_4, li_5, li_6, li_7, li_8, li_9, li_10, li_11, li_12, li_13, li_14, li_15, li_16, li_20, li_24, li_28, li_31, li_35, li_38, li_40, li_41, li_45, li_48, li_60, li_62, li_63, li_97, li_100, li_104, li_105, li_120, li_124, li_127, li_180, li_239, li_240, li_255, li_256, li_300, li_400, li_960, li_1000000]
      · rw [zB_1] at c1 ⊢
        simp (implicitDefEqProofs := false) (disch := omega) only [mX4_reaches, c1, ↓bnd_e, ↓ob_s, ob_s, su_1, su_2, sl_1, sl_2, ↓ck_n, ck_n, ck_Z0, ck_Z1, c_lt, c_le, c_eq, ng_1, m_ne, m_en, m_lt, m_le, m_gt, m_ge, n_add, n_mul, n_sub, n_sm, n_pm, n_0m, n_cl, Nat.reduceEqDiff, ↓reduceIte, nle_T, nle_F, nlt_T, nlt_F, neq_F, neq_T, if_true, if_false, true_and, and_true, Nat.mul_zero, Nat.zero_add, Nat.add_zero, Nat.reduceAdd, Nat.reduceMul, Nat.reduceSub, li_0, li_1, li_2, li_3, li_4, li_5, li_6, li_7, li_8, li_9, li_10, li_11, li_12, li_13, li_14, li_15, li_16, li_20, li_24, li_28, li_31, li_35, li_38, li_40, li_41, li_45, li_48, li_60, li_62, li_63, li_97, li_100, li_104, li_105, li_120, li_124, li_127, li_180, li_239, li_240, li_255, li_256, li_300, li_400, li_960, li_1000000]
    · cases c
      · rw [zB_0] at c2 ⊢
        simp (implicitDefEqProofs := false) (disch := omega) only [mX8_isReference, c2, ↓bnd_e, ↓ob_s, ob_s, su_1, su_2, sl_1, sl_2, ↓ck_n, ck_n, ck_Z0, ck_Z1, c_lt, c_le, c_eq, ng_1, m_ne, m_en, m_lt, m_le, m_gt, m_ge, n_add, n_mul, n_sub, n_sm, n_pm, n_0m, n_cl, Nat.reduceEqDiff, ↓reduceIte, nle_T, nle_F, nlt_T, nlt_F, neq_F, neq_T, if_true, if_false, true_and, and_true, Nat.mul_zero, Nat.zero_add, Nat.add_zero, Nat.reduceAdd, Nat.reduceMul, Nat.reduceSub, li_0, li_1, li_2, li_3, li_4, li_5, li_6, li_7, li_8, li_9, li_10, li_11, li_12, li_13, li_14, li_15, li_16, li_20, li_24, li_28, li_31, li_35, li_38, li_40, li_41, li_45, li_48, li_60, li_62, li_63, li_97, li_100, li_104, li_105, li_120, li_124, li_127, li_180, li_239, li_240, li_255, li_256, li_300, li_400, li_960, li_1000000]
      · rw [zB_1] at c2 ⊢
        simp (implicitDefEqProofs := false) (disch := omega) only [mX8_isReference, c2, ↓bnd_e, ↓ob_s, ob_s, su_1, su_2, sl_1, sl_2, ↓ck_n, ck_n, ck_Z0, ck_Z1, c_lt, c_le, c_eq, ng_1, m_ne, m_en, m_lt, m_le, m_gt, m_ge, n_add, n_mul, n_sub, n_sm, n_pm, n_0m, n_cl, Nat.reduceEqDiff, ↓reduceIte, nle_T, nle_F, nlt_T, nlt_F, neq_F, neq_T, if_true, if_false, true_and, and_true, Nat.mul_zero, Nat.zero_add, Nat.add_zero, Nat.reduceAdd, Nat.reduceMul, Nat.reduceSub, li_0, li_1, li_2, li_3, li_4, li_5, li_6, li_7, li_8, li_9, li_10, li_11, li_12, li_13, li_14, li_15, li_16, li_20, li_24, li_28, li_31, li_35, li_38, li_40, li_41, li_45, li_48, li_60, li_62, li_63, li_97, li_100, li_104, li_105, li_120, li_124, li_127, li_180, li_239, li_240, li_255, li_256, li_300, li_400, li_960, li_1000000]
  · have hT := hh.1.1
    have h10 := hh.1.2.2
    have un : mX8_isReference τ (nI 3) x = (mX8_isIn τ x (nI 0) (nI T - nI 1)).bind fun r4 => if r4 = 0 then some 0 else some 1 := by
      unfold mX8_isReference
      rw [if_neg (by decide), if_neg (by decide), if_neg (by decide), h10]; rfl
    rcases x8_in1 x T (by omega) with ⟨t, ht, rfl, g1⟩ | ⟨g1, g2⟩
    · refine ⟨true, ?_, ?_, fun _ => ⟨fun h => by omega, fun h => by omega, fun _ => ⟨t, ht, rfl⟩⟩⟩
      · have h6 := hh.1.2.1
        rw [zB_1]
        simp (implicitDefEqProofs := false) (disch := omega) only [mX4_reaches, mX6_isKnown, h6, ↓bnd_e, ↓ob_s, ob_s, su_1, su_2, sl_1, sl_2, ↓ck_n, ck_n, ck_Z0, ck_Z1, c_lt, c_le, c_eq, ng_1, m_ne, m_en, m_lt, m_le, m_gt, m_ge, n_add, n_mul, n_sub, n_sm, n_pm, n_0m, n_cl, Nat.reduceEqDiff, ↓reduceIte, nle_T, nle_F, nlt_T, nlt_F, neq_F, neq_T, if_true, if_false, true_and, and_true, Nat.mul_zero, Nat.zero_add, Nat.add_zero, Nat.reduceAdd, Nat.reduceMul, Nat.reduceSub, li_0, li_1, li_2, li_3, li_4, li_5, li_6, li_7, li_8, li_9, li_10, li_11, li_12, li_13, li_14, li_15, li_16, li_20, li_24, li_28, li_31, li_35, li_38, li_40, li_41, li_45, li_48, li_60, li_62, li_63, li_97, li_100, li_104, li_105, li_120, li_124, li_127, li_180, li_239, li_240, li_255, li_256, li_300, li_400, li_960, li_1000000]
      · rw [un, g1 τ, ob_s]; rfl
    · refine ⟨false, ?_, ?_, fun h => absurd h (by decide)⟩
      · have h6 := hh.1.2.1
        rw [zB_0]
        rcases g1 with g1 | ⟨g1, g3, _⟩
        · simp (implicitDefEqProofs := false) (disch := omega) only [mX4_reaches, mX6_isKnown, g1, ↓bnd_e, ↓ob_s, ob_s, su_1, su_2, sl_1, sl_2, ↓ck_n, ck_n, ck_Z0, ck_Z1, c_lt, c_le, c_eq, ng_1, m_ne, m_en, m_lt, m_le, m_gt, m_ge, n_add, n_mul, n_sub, n_sm, n_pm, n_0m, n_cl, Nat.reduceEqDiff, ↓reduceIte, nle_T, nle_F, nlt_T, nlt_F, neq_F, neq_T, if_true, if_false, true_and, and_true, Nat.mul_zero, Nat.zero_add, Nat.add_zero, Nat.reduceAdd, Nat.reduceMul, Nat.reduceSub, li_0, li_1, li_2, li_3, li_4, li_5, li_6, li_7, li_8, li_9, li_10, li_11, li_12, li_13, li_14, li_15, li_16, li_20, li_24, li_28, li_31, li_35, li_38, li_40, li_41, li_45, li_48, li_60, li_62, li_63, li_97, li_100, li_104, li_105, li_120, li_124, li_127, li_180, li_239, li_240, li_255, li_256, li_300, li_400, li_960, li_1000000]
        · simp (implicitDefEqProofs := false) (disch := omega) only [mX4_reaches, mX6_isKnown, h6, g1, g3, ↓bnd_e, ↓ob_s, ob_s, su_1, su_2, sl_1, sl_2, ↓ck_n, ck_n, ck_Z0, ck_Z1, c_lt, c_le, c_eq, ng_1, m_ne, m_en, m_lt, m_le, m_gt, m_ge, n_add, n_mul, n_sub, n_sm, n_pm, n_0m, n_cl, Nat.reduceEqDiff, ↓reduceIte, nle_T, nle_F, nlt_T, nlt_F, neq_F, neq_T, if_true, if_false, true_and, and_true, Nat.mul_zero, Nat.zero_add, Nat.add_zero, Nat.reduceAdd, Nat.reduceMul, Nat.reduceSub, li_0, li_1, li_2, li_3, li_4, li_5, li_6, li_7, li_8, li_9, li_10, li_11, li_12, li_13, li_14, li_15, li_16, li_20, li_24, li_28, li_31, li_35, li_38, li_40, li_41, li_45, li_48, li_60, li_62, li_63, li_97, li_100, li_104, li_105, li_120, li_124, li_127, li_180, li_239, li_240, li_255, li_256, li_300, li_400, li_960, li_1000000]
      · rw [un, g2 τ, ob_s]; rfl
theorem rf_c {σ : St} {p1 p2 p3 p4 p5 k0 k1 k2 : Int32} {c0 c1 c2 : Bool} (h0 : mX3_kind σ p1 (nI 0) p3 = some k0) (h1 : mX3_kind σ p1 (nI 1) p3 = some k1) (h2 : mX3_kind σ p1 (nI 2) p3 = some k2)
    (g0 : mX4_reaches σ k0 p3 = some (zB c0)) (g1 : mX4_reaches σ k1 p4 = some (zB c1)) (g2 : mX4_reaches σ k2 p5 = some (zB c2)) : mX4_refusal σ p1 p2 p3 p4 p5 = if c0 = true ∧ c1 = true ∧ c2 = true then cT σ p1 p2 p3 p4 p5 else some (1, σ) := by
  unfold mX4_refusal
  rw [show (0 : Int32) = nI 0 from rfl, show (1 : Int32) = nI 1 from rfl, show (2 : Int32) = nI 2 from rfl, h0, ob_s, g0, ob_s]
  cases c0
  · rw [zB_0, if_pos rfl, if_neg (fun h => absurd h.1 (by decide))]
  · rw [zB_1, if_neg (by decide), h1, ob_s, g1, ob_s]
    cases c1
    · rw [zB_0, if_pos rfl, if_neg (fun h => absurd h.2.1 (by decide))]
    · rw [zB_1, if_neg (by decide), h2, ob_s, g2, ob_s]
      cases c2
      · rw [zB_0, if_pos rfl, if_neg (fun h => absurd h.2.2 (by decide))]
      · rw [zB_1, if_neg (by decide)]; exact (if_pos (show true = true ∧ true = true ∧ true = true from ⟨rfl, rfl, rfl⟩)).symm
def mTl (τ : St) (p1 p2 p3 p4 p5 N k0 : Int32) : Option (Int32 × St) :=
  if p1 = 13 then (mX8_theoremGives τ p2 p3 p4 p5).bind fun ⟨r205, s207⟩ => if r205 = 0 then some (3, s207) else some (0, s207)
  else if k0 = 2 then mX8_refusal_93 τ p1 p2 p3 p4 p5 N 1 else mX8_refusal_93 τ p1 p2 p3 p4 p5 N 0
theorem rf_m {τ : St} {p1 p2 p3 p4 p5 : Int32} {N k0 k1 k2 : Nat} {c0 c1 c2 : Bool} (hn : mX8_needs τ p1 p3 = some (nI N)) (d1 : nI N / nI 100 = nI k0) (d2 : nI N / nI 10 - nI N / nI 10 / nI 10 * nI 10 = nI k1) (d3 : nI N - nI N / nI 10 * nI 10 = nI k2)
    (g0 : mX8_isReference τ (nI k0) p3 = some (zB c0)) (g1 : mX8_isReference τ (nI k1) p4 = some (zB c1)) (g2 : mX8_isReference τ (nI k2) p5 = some (zB c2)) : mX8_refusal τ p1 p2 p3 p4 p5 = if c0 = true ∧ c1 = true ∧ c2 = true then mTl τ p1 p2 p3 p4 p5 (nI N) (nI k0) else some (1, τ) := by
  unfold mX8_refusal
  rw [hn, ob_s, show (100 : Int32) = nI 100 from rfl, show (10 : Int32) = nI 10 from rfl, d1, d2, d3, g0, ob_s]
  cases c0
  · rw [zB_0, if_pos (show nI 0 = 0 from rfl), if_neg (fun h => absurd h.1 (by decide))]
  · rw [zB_1, if_neg (by decide), g1, ob_s]
    cases c1
    · rw [zB_0, if_pos (show nI 0 = 0 from rfl), if_neg (fun h => absurd h.2.1 (by decide))]
    · rw [zB_1, if_neg (by decide), g2, ob_s]
      cases c2
      · rw [zB_0, if_pos (show nI 0 = 0 from rfl), if_neg (fun h => absurd h.2.2 (by decide))]
      · rw [zB_1, if_neg (by decide)]; exact (if_pos (show true = true ∧ true = true ∧ true = true from ⟨rfl, rfl, rfl⟩)).symm
theorem fo_tot {σ : St} {L : Nat} (hL : L ≤ 60) (a8 : σ.1 8 0 = nI L) (x : Int32) : ∃ v, mX3_formulaOf σ x = some v := by
  rcases ix3 x L (by omega) with ⟨h, h'⟩ | ⟨h, h', _⟩ | ⟨j, hj, rfl⟩
  · exact ⟨mI, by simp (implicitDefEqProofs := false) (disch := omega) only [mX3_formulaOf, h, ↓bnd_e, ↓ob_s, ob_s, su_1, su_2, sl_1, sl_2, ↓ck_n, ck_n, ck_Z0, ck_Z1, c_lt, c_le, c_eq, ng_1, m_ne, m_en, m_lt, m_le, m_gt, m_ge, n_add, n_mul, n_sub, n_sm, n_pm, n_0m, n_cl, Nat.reduceEqDiff, ↓reduceIte, nle_T, nle_F, nlt_T, nlt_F, neq_F, neq_T, if_true, if_false, true_and, and_true, Nat.mul_zero, Nat.zero_add, Nat.add_zero, Nat.reduceAdd, Nat.reduceMul, Nat.reduceSub, li_0, li_1, li_2, li_3, li_4, li_5, li_6, li_7, li_8, li_9, li_10, li_11, li_12, li_13, li_14, li_15, li_16, li_20, li_24, li_28, li_31, li_35, li_38, li_40, li_41, li_45, li_48, li_60, li_62, li_63, li_97, li_100, li_104, li_105, li_120, li_124, li_127, li_180, li_239, li_240, li_255, li_256, li_300, li_400, li_960, li_1000000]⟩
  · exact ⟨mI, by simp (implicitDefEqProofs := false) (disch := omega) only [mX3_formulaOf, a8, h, h', ↓bnd_e, ↓ob_s, ob_s, su_1, su_2, sl_1, sl_2, ↓ck_n, ck_n, ck_Z0, ck_Z1, c_lt, c_le, c_eq, ng_1, m_ne, m_en, m_lt, m_le, m_gt, m_ge, n_add, n_mul, n_sub, n_sm, n_pm, n_0m, n_cl, Nat.reduceEqDiff, ↓reduceIte, nle_T, nle_F, nlt_T, nlt_F, neq_F, neq_T, if_true, if_false, true_and, and_true, Nat.mul_zero, Nat.zero_add, Nat.add_zero, Nat.reduceAdd, Nat.reduceMul, Nat.reduceSub, li_0, li_1, li_2, li_3, li_4, li_5, li_6, li_7, li_8, li_9, li_10, li_11, li_12, li_13, li_14, li_15, li_16, li_20, li_24, li_28, li_31, li_35, li_38, li_40, li_41, li_45, li_48, li_60, li_62, li_63, li_97, li_100, li_104, li_105, li_120, li_124, li_127, li_180, li_239, li_240, li_255, li_256, li_300, li_400, li_960, li_1000000]⟩
  · exact ⟨σ.1 29 j, by simp (implicitDefEqProofs := false) (disch := omega) only [mX3_formulaOf, a8, ↓bnd_e, ↓ob_s, ob_s, su_1, su_2, sl_1, sl_2, ↓ck_n, ck_n, ck_Z0, ck_Z1, c_lt, c_le, c_eq, ng_1, m_ne, m_en, m_lt, m_le, m_gt, m_ge, n_add, n_mul, n_sub, n_sm, n_pm, n_0m, n_cl, Nat.reduceEqDiff, ↓reduceIte, nle_T, nle_F, nlt_T, nlt_F, neq_F, neq_T, if_true, if_false, true_and, and_true, Nat.mul_zero, Nat.zero_add, Nat.add_zero, Nat.reduceAdd, Nat.reduceMul, Nat.reduceSub, li_0, li_1, li_2, li_3, li_4, li_5, li_6, li_7, li_8, li_9, li_10, li_11, li_12, li_13, li_14, li_15, li_16, li_20, li_24, li_28, li_31, li_35, li_38, li_40, li_41, li_45, li_48, li_60, li_62, li_63, li_97, li_100, li_104, li_105, li_120, li_124, li_127, li_180, li_239, li_240, li_255, li_256, li_300, li_400, li_960, li_1000000]⟩
/-- what a good reference is -/
def RE (L B T kd : Nat) (τ : St) (x : Int32) : Prop := (kd = 1 → ∃ j, j < L ∧ x = nI j) ∧ (kd = 2 → ∃ b, b < B ∧ x = nI b ∧ ∃ i, i < L ∧ τ.1 26 b = nI i) ∧ (kd = 3 → ∃ t, t < T ∧ x = nI t)
theorem rules_rel {F T L B O : Nat} {σ τ : St} (h : VV F T L B O σ τ) (hf : RF F σ τ) {r f N : Nat} (hr : r ≤ 12) (hff : f < F) {a b c : Int32} (R0 : RE L B T (kdM r 0 0) τ a) (R1 : RE L B T (kdM r 0 1) τ b) (R2 : RE L B T (kdM r 0 2) τ c)
    (d2 : nI N / nI 10 - nI N / nI 10 / nI 10 * nI 10 = nI (kdM r 0 1)) : ∃ why, why ≤ 3 ∧ cT σ (nI r) (nI f) a b c = some (nI why, σ) ∧ mTl τ (nI r) (nI f) a b c (nI N) (nI (kdM r 0 0)) = some (nI why, τ) := by
  have hL : L ≤ 60 := h.2.2.2.1.1
  obtain ⟨sf, l, rr, Ff⟩ := FQ.of hf hff
  have hr13 : r = 0 ∨ r = 1 ∨ r = 2 ∨ r = 3 ∨ r = 4 ∨ r = 5 ∨ r = 6 ∨ r = 7 ∨ r = 8 ∨ r = 9 ∨ r = 10 ∨ r = 11 ∨ r = 12 := by omega
  rcases hr13 with rfl | rfl | rfl | rfl | rfl | rfl | rfl | rfl | rfl | rfl | rfl | rfl | rfl
  · obtain ⟨ja, h1, rfl⟩ := R0.1 rfl
    obtain ⟨x, hx, A⟩ := LN.of h hf h1
    obtain ⟨why, w1, w2, w3⟩ := fr_0 (b := b) (c := c) A Ff d2
    refine ⟨why, w1, w2, ?_⟩
    unfold mTl
    rw [if_neg (by decide), if_neg (by decide)]
    exact w3
  · obtain ⟨ja, h1, rfl⟩ := R0.1 rfl
    obtain ⟨x, hx, A⟩ := LN.of h hf h1
    obtain ⟨jb, h2, rfl⟩ := R1.1 rfl
    obtain ⟨y, hy, Bb⟩ := LN.of h hf h2
    obtain ⟨why, w1, w2, w3⟩ := fr_1 (c := c) A Bb Ff d2
    refine ⟨why, w1, w2, ?_⟩
    unfold mTl
    rw [if_neg (by decide), if_neg (by decide)]
    exact w3
  · obtain ⟨ja, h1, rfl⟩ := R0.1 rfl
    obtain ⟨x, hx, A⟩ := LN.of h hf h1
    obtain ⟨sx, l', r', X⟩ := FQ.of hf hx
    obtain ⟨why, w1, w2, w3⟩ := fr_2 (b := b) (c := c) A X Ff d2
    refine ⟨why, w1, w2, ?_⟩
    unfold mTl
    rw [if_neg (by decide), if_neg (by decide)]
    exact w3
  · obtain ⟨ja, h1, rfl⟩ := R0.1 rfl
    obtain ⟨x, hx, A⟩ := LN.of h hf h1
    obtain ⟨sx, l', r', X⟩ := FQ.of hf hx
    obtain ⟨why, w1, w2, w3⟩ := fr_3 (b := b) (c := c) A X Ff d2
    refine ⟨why, w1, w2, ?_⟩
    unfold mTl
    rw [if_neg (by decide), if_neg (by decide)]
    exact w3
  · obtain ⟨ja, h1, rfl⟩ := R0.1 rfl
    obtain ⟨x, hx, A⟩ := LN.of h hf h1
    obtain ⟨why, w1, w2, w3⟩ := fr_4 (b := b) (c := c) A Ff d2
    refine ⟨why, w1, w2, ?_⟩
    unfold mTl
    rw [if_neg (by decide), if_neg (by decide)]
    exact w3
  · obtain ⟨ja, h1, rfl⟩ := R0.1 rfl
    obtain ⟨x, hx, A⟩ := LN.of h hf h1
    obtain ⟨why, w1, w2, w3⟩ := fr_5 (b := b) (c := c) A Ff d2
    refine ⟨why, w1, w2, ?_⟩
    unfold mTl
    rw [if_neg (by decide), if_neg (by decide)]
    exact w3
  · obtain ⟨ja, h1, rfl⟩ := R0.1 rfl
    obtain ⟨x, hx, A⟩ := LN.of h hf h1
    obtain ⟨sx, l', r', X⟩ := FQ.of hf hx
    obtain ⟨bb, g1, rfl, ib, g2, g3⟩ := R1.2.1 rfl
    obtain ⟨cc, q1, rfl, ic, q2, q3⟩ := R2.2.1 rfl
    obtain ⟨jb, xb, yb, hxb, hyb, U⟩ := BX.of h hf g1 g2 g3
    obtain ⟨jc, xc, yc, hxc, hyc, V⟩ := BX.of h hf q1 q2 q3
    obtain ⟨why, w1, w2, w3⟩ := fr_6  A X Ff U V d2
    refine ⟨why, w1, w2, ?_⟩
    unfold mTl
    rw [if_neg (by decide), if_neg (by decide)]
    exact w3
  · obtain ⟨ba, h1, rfl, ia, h2, h3⟩ := R0.2.1 rfl
    obtain ⟨ja, xa, ya, hxa, hya, U⟩ := BX.of h hf h1 h2 h3
    obtain ⟨v, hv⟩ := fo_tot hL h.1.1 (nI ba)
    obtain ⟨why, w1, w2, w3⟩ := fr_7 (b := b) (c := c) U Ff hv d2
    refine ⟨why, w1, w2, ?_⟩
    unfold mTl
    rw [if_neg (by decide), if_pos (by decide)]
    exact w3
  · obtain ⟨ja, h1, rfl⟩ := R0.1 rfl
    obtain ⟨x, hx, A⟩ := LN.of h hf h1
    obtain ⟨jb, h2, rfl⟩ := R1.1 rfl
    obtain ⟨y, hy, Bb⟩ := LN.of h hf h2
    obtain ⟨sx, l', r', X⟩ := FQ.of hf hx
    obtain ⟨why, w1, w2, w3⟩ := fr_8 (c := c) A Bb X Ff d2
    refine ⟨why, w1, w2, ?_⟩
    unfold mTl
    rw [if_neg (by decide), if_neg (by decide)]
    exact w3
  · obtain ⟨ba, h1, rfl, ia, h2, h3⟩ := R0.2.1 rfl
    obtain ⟨ja, xa, ya, hxa, hya, U⟩ := BX.of h hf h1 h2 h3
    obtain ⟨v, hv⟩ := fo_tot hL h.1.1 (nI ba)
    obtain ⟨se, l', r', E⟩ := FQ.of hf hya
    obtain ⟨why, w1, w2, w3⟩ := fr_9 (b := b) (c := c) U E Ff hv d2
    refine ⟨why, w1, w2, ?_⟩
    unfold mTl
    rw [if_neg (by decide), if_pos (by decide)]
    exact w3
  · obtain ⟨ja, h1, rfl⟩ := R0.1 rfl
    obtain ⟨x, hx, A⟩ := LN.of h hf h1
    obtain ⟨jb, h2, rfl⟩ := R1.1 rfl
    obtain ⟨y, hy, Bb⟩ := LN.of h hf h2
    obtain ⟨sy, l', r', Y⟩ := FQ.of hf hy
    obtain ⟨why, w1, w2, w3⟩ := fr_10 (c := c) A Bb Y Ff d2
    refine ⟨why, w1, w2, ?_⟩
    unfold mTl
    rw [if_neg (by decide), if_neg (by decide)]
    exact w3
  · obtain ⟨ja, h1, rfl⟩ := R0.1 rfl
    obtain ⟨x, hx, A⟩ := LN.of h hf h1
    obtain ⟨sx, l', r', X⟩ := FQ.of hf hx
    obtain ⟨why, w1, w2, w3⟩ := fr_11 (b := b) (c := c) A X Ff d2
    refine ⟨why, w1, w2, ?_⟩
    unfold mTl
    rw [if_neg (by decide), if_neg (by decide)]
    exact w3
  · obtain ⟨ja, h1, rfl⟩ := R0.1 rfl
    obtain ⟨x, hx, A⟩ := LN.of h hf h1
    obtain ⟨sx, l', r', X⟩ := FQ.of hf hx
    obtain ⟨why, w1, w2, w3⟩ := fr_12 (b := b) (c := c) hf hx A X Ff d2
    refine ⟨why, w1, w2, ?_⟩
    unfold mTl
    rw [if_neg (by decide), if_neg (by decide)]
    exact w3
theorem theo_rel {F T L B O : Nat} {σ τ : St} (h : VV F T L B O σ τ) (hf : RF F σ τ) (hh : RH F T σ τ) {t m f : Nat} (htT : t < T) (hff : f < F) (e30 : τ.1 30 t = nI m) (m2 : m ≤ 2) (ep : mX6_premises σ (nI t) = some (nI m)) {b c : Int32} (hb : 0 < m → ∃ j, j < L ∧ b = nI j) (hc : 1 < m → ∃ j, j < L ∧ c = nI j) (N k0 : Int32) :
    ∃ (why : Nat) (σ' τ' : St), why ≤ 3 ∧ cT σ (nI 13) (nI f) (nI t) b c = some (nI why, σ') ∧ mTl τ (nI 13) (nI f) (nI t) b c N k0 = some (nI why, τ') ∧ KE [28] σ σ' ∧ σ'.2 = σ.2 ∧ KE [39] τ τ' := by
  have hL : L ≤ 60 := h.2.2.2.1.1
  have hT := hh.1.1
  obtain ⟨c0, m', p1, p2, hc0, hm', e22, e29, e30', h1, h2⟩ := theo_p hh htT
  rw [e30, c_eq (by omega) (by omega)] at e30'
  subst e30'
  obtain ⟨jb, x, Xb⟩ : ∃ jb x, 0 < m → jb < L ∧ b = nI jb ∧ x < F ∧ LN σ τ jb x := by
    by_cases h0 : 0 < m
    · obtain ⟨j, j1, j2⟩ := hb h0
      obtain ⟨x, hx, A⟩ := LN.of h hf j1
      exact ⟨j, x, fun _ => ⟨j1, j2, hx, A⟩⟩
    · exact ⟨0, 0, fun h => absurd h h0⟩
  obtain ⟨jc, y, Yc⟩ : ∃ jc y, 1 < m → jc < L ∧ c = nI jc ∧ y < F ∧ LN σ τ jc y := by
    by_cases h0 : 1 < m
    · obtain ⟨j, j1, j2⟩ := hc h0
      obtain ⟨x, hx, A⟩ := LN.of h hf j1
      exact ⟨j, x, fun _ => ⟨j1, j2, hx, A⟩⟩
    · exact ⟨0, 0, fun h => absurd h h0⟩
  obtain ⟨q, s', r1, r2, r3, r4⟩ := says_c (m := m) (x := x) (y := y) (p1 := p1) (p2 := p2) hf hT hh.1.2.1 htT hc0 hff m2 e22 (fun h0 => ⟨(h1 h0).1, (h1 h0).2.1, (Xb h0).2.2.1⟩) (fun h0 => ⟨(h2 h0).1, (h2 h0).2.1, (Yc h0).2.2.1⟩)
  obtain ⟨q', t', u1, u2, u3⟩ := gives_m (m := m) (x := x) (y := y) (p1 := p1) (p2 := p2) (b := jb) (c' := jc) hf hT htT hc0 hff m2 e29 e30 (fun h0 => ⟨(h1 h0).1, (h1 h0).2.2, (Xb h0).2.2.1, (Xb h0).2.2.2.1, (Xb h0).2.2.2.2.2.1⟩) (fun h0 => ⟨(h2 h0).1, (h2 h0).2.2, (Yc h0).2.2.1, (Yc h0).2.2.2.1, (Yc h0).2.2.2.2.2.1⟩) b c (fun h0 => (Xb h0).2.1) (fun h0 => (Yc h0).2.1)
  obtain ⟨eq, _⟩ := r4.eq u3
  subst eq
  obtain ⟨v, hv⟩ := fo_tot hL h.1.1 (nI t)
  have e5 : mX4_theoremFits σ (nI f) (nI t) b c = some (zB q, s') := by
    have e6 : mX4_theoremFits σ (nI f) (nI t) b c = (mX6_saysWithPremises σ (nI t) (nI f) (if 0 < m then nI x else mI) (if 1 < m then nI y else mI)).bind fun ⟨r6, s8⟩ => chkZ r6 (some (r6, s8)) := by
      have hm3 : m = 0 ∨ m = 1 ∨ m = 2 := by omega
      rcases hm3 with rfl | rfl | rfl
      · simp (implicitDefEqProofs := false) (disch := omega) only [mX4_theoremFits, mX4_theoremFits_27, mX4_theoremFits_48, ep, ↓bnd_e, ↓ob_s, ob_s, su_1, su_2, sl_1, sl_2, ↓ck_n, ck_n, ck_Z0, ck_Z1, c_lt, c_le, c_eq, ng_1, m_ne, m_en, m_lt, m_le, m_gt, m_ge, n_add, n_mul, n_sub, n_sm, n_pm, n_0m, n_cl, Nat.reduceEqDiff, ↓reduceIte, nle_T, nle_F, nlt_T, nlt_F, neq_F, neq_T, if_true, if_false, true_and, and_true, Nat.mul_zero, Nat.zero_add, Nat.add_zero, Nat.reduceAdd, Nat.reduceMul, Nat.reduceSub, li_0, li_1, li_2, li_3, li_4, li_5, li_6, li_7, li_8, li_9, li_10, li_11, li_12, li_13, li_14, li_15, li_16, li_20, li_24, li_28, li_31, li_35, li_38, li_40, li_41, li_45, li_48, li_60, li_62, li_63, li_97, li_100, li_104, li_105, li_120, li_124, li_127, li_180, li_239, li_240, li_255, li_256, li_300, li_400, li_960, li_1000000]
      · obtain ⟨_, rfl, _, _, _, _, fx1⟩ := Xb (by omega)
        simp (implicitDefEqProofs := false) (disch := omega) only [mX4_theoremFits, mX4_theoremFits_27, mX4_theoremFits_48, ep, fx1, ↓bnd_e, ↓ob_s, ob_s, su_1, su_2, sl_1, sl_2, ↓ck_n, ck_n, ck_Z0, ck_Z1, c_lt, c_le, c_eq, ng_1, m_ne, m_en, m_lt, m_le, m_gt, m_ge, n_add, n_mul, n_sub, n_sm, n_pm, n_0m, n_cl, Nat.reduceEqDiff, ↓reduceIte, nle_T, nle_F, nlt_T, nlt_F, neq_F, neq_T, if_true, if_false, true_and, and_true, Nat.mul_zero, Nat.zero_add, Nat.add_zero, Nat.reduceAdd, Nat.reduceMul, Nat.reduceSub, li_0, li_1, li_2, li_3, li_4, li_5, li_6, li_7, li_8, li_9, li_10, li_11, li_12, li_13, li_14, li_15, li_16, li_20, li_24, li_28, li_31, li_35, li_38, li_40, li_41, li_45, li_48, li_60, li_62, li_63, li_97, li_100, li_104, li_105, li_120, li_124, li_127, li_180, li_239, li_240, li_255, li_256, li_300, li_400, li_960, li_1000000]
      · obtain ⟨_, rfl, _, _, _, _, fx1⟩ := Xb (by omega)
        obtain ⟨_, rfl, _, _, _, _, fx2⟩ := Yc (by omega)
        simp (implicitDefEqProofs := false) (disch := omega) only [mX4_theoremFits, mX4_theoremFits_27, mX4_theoremFits_48, ep, fx1, fx2, ↓bnd_e, ↓ob_s, ob_s, su_1, su_2, sl_1, sl_2, ↓ck_n, ck_n, ck_Z0, ck_Z1, c_lt, c_le, c_eq, ng_1, m_ne, m_en, m_lt, m_le, m_gt, m_ge, n_add, n_mul, n_sub, n_sm, n_pm, n_0m, n_cl, Nat.reduceEqDiff, ↓reduceIte, nle_T, nle_F, nlt_T, nlt_F, neq_F, neq_T, if_true, if_false, true_and, and_true, Nat.mul_zero, Nat.zero_add, Nat.add_zero, Nat.reduceAdd, Nat.reduceMul, Nat.reduceSub, li_0, li_1, li_2, li_3, li_4, li_5, li_6, li_7, li_8, li_9, li_10, li_11, li_12, li_13, li_14, li_15, li_16, li_20, li_24, li_28, li_31, li_35, li_38, li_40, li_41, li_45, li_48, li_60, li_62, li_63, li_97, li_100, li_104, li_105, li_120, li_124, li_127, li_180, li_239, li_240, li_255, li_256, li_300, li_400, li_960, li_1000000]
    rw [e6, r1, ob_s]
    exact ck_zB q _
  cases q
  · rw [zB_0] at e5 u1
    refine ⟨3, s', t', by omega, ?_, ?_, r2, r3, u2⟩
    · simp (implicitDefEqProofs := false) (disch := omega) only [cT, mX4_hasForm, hv, e5, mX4_refusal_129, ↓bnd_e, ↓ob_s, ob_s, su_1, su_2, sl_1, sl_2, ↓ck_n, ck_n, ck_Z0, ck_Z1, c_lt, c_le, c_eq, ng_1, m_ne, m_en, m_lt, m_le, m_gt, m_ge, n_add, n_mul, n_sub, n_sm, n_pm, n_0m, n_cl, Nat.reduceEqDiff, ↓reduceIte, nle_T, nle_F, nlt_T, nlt_F, neq_F, neq_T, if_true, if_false, true_and, and_true, Nat.mul_zero, Nat.zero_add, Nat.add_zero, Nat.reduceAdd, Nat.reduceMul, Nat.reduceSub, li_0, li_1, li_2, li_3, li_4, li_5, li_6, li_7, li_8, li_9, li_10, li_11, li_12, li_13, li_14, li_15, li_16, li_20, li_24, li_28, li_31, li_35, li_38, li_40, li_41, li_45, li_48, li_60, li_62, li_63, li_97, li_100, li_104, li_105, li_120, li_124, li_127, li_180, li_239, li_240, li_255, li_256, li_300, li_400, li_960, li_1000000]
    · simp (implicitDefEqProofs := false) (disch := omega) only [mTl, u1, ↓bnd_e, ↓ob_s, ob_s, su_1, su_2, sl_1, sl_2, ↓ck_n, ck_n, ck_Z0, ck_Z1, c_lt, c_le, c_eq, ng_1, m_ne, m_en, m_lt, m_le, m_gt, m_ge, n_add, n_mul, n_sub, n_sm, n_pm, n_0m, n_cl, Nat.reduceEqDiff, ↓reduceIte, nle_T, nle_F, nlt_T, nlt_F, neq_F, neq_T, if_true, if_false, true_and, and_true, Nat.mul_zero, Nat.zero_add, Nat.add_zero, Nat.reduceAdd, Nat.reduceMul, Nat.reduceSub, li_0, li_1, li_2, li_3, li_4, li_5, li_6, li_7, li_8, li_9, li_10, li_11, li_12, li_13, li_14, li_15, li_16, li_20, li_24, li_28, li_31, li_35, li_38, li_40, li_41, li_45, li_48, li_60, li_62, li_63, li_97, li_100, li_104, li_105, li_120, li_124, li_127, li_180, li_239, li_240, li_255, li_256, li_300, li_400, li_960, li_1000000]
  · rw [zB_1] at e5 u1
    refine ⟨0, s', t', by omega, ?_, ?_, r2, r3, u2⟩
    · simp (implicitDefEqProofs := false) (disch := omega) only [cT, mX4_hasForm, hv, e5, mX4_refusal_129, ↓bnd_e, ↓ob_s, ob_s, su_1, su_2, sl_1, sl_2, ↓ck_n, ck_n, ck_Z0, ck_Z1, c_lt, c_le, c_eq, ng_1, m_ne, m_en, m_lt, m_le, m_gt, m_ge, n_add, n_mul, n_sub, n_sm, n_pm, n_0m, n_cl, Nat.reduceEqDiff, ↓reduceIte, nle_T, nle_F, nlt_T, nlt_F, neq_F, neq_T, if_true, if_false, true_and, and_true, Nat.mul_zero, Nat.zero_add, Nat.add_zero, Nat.reduceAdd, Nat.reduceMul, Nat.reduceSub, li_0, li_1, li_2, li_3, li_4, li_5, li_6, li_7, li_8, li_9, li_10, li_11, li_12, li_13, li_14, li_15, li_16, li_20, li_24, li_28, li_31, li_35, li_38, li_40, li_41, li_45, li_48, li_60, li_62, li_63, li_97, li_100, li_104, li_105, li_120, li_124, li_127, li_180, li_239, li_240, li_255, li_256, li_300, li_400, li_960, li_1000000]
    · simp (implicitDefEqProofs := false) (disch := omega) only [mTl, u1, ↓bnd_e, ↓ob_s, ob_s, su_1, su_2, sl_1, sl_2, ↓ck_n, ck_n, ck_Z0, ck_Z1, c_lt, c_le, c_eq, ng_1, m_ne, m_en, m_lt, m_le, m_gt, m_ge, n_add, n_mul, n_sub, n_sm, n_pm, n_0m, n_cl, Nat.reduceEqDiff, ↓reduceIte, nle_T, nle_F, nlt_T, nlt_F, neq_F, neq_T, if_true, if_false, true_and, and_true, Nat.mul_zero, Nat.zero_add, Nat.add_zero, Nat.reduceAdd, Nat.reduceMul, Nat.reduceSub, li_0, li_1, li_2, li_3, li_4, li_5, li_6, li_7, li_8, li_9, li_10, li_11, li_12, li_13, li_14, li_15, li_16, li_20, li_24, li_28, li_31, li_35, li_38, li_40, li_41, li_45, li_48, li_60, li_62, li_63, li_97, li_100, li_104, li_105, li_120, li_124, li_127, li_180, li_239, li_240, li_255, li_256, li_300, li_400, li_960, li_1000000]
theorem refusal_rel {F T L B O : Nat} {σ τ : St} (h : VV F T L B O σ τ) (hf : RF F σ τ) (hh : RH F T σ τ) {r f : Nat} (hr : r ≤ 13) (hff : f < F) (a b c : Int32) :
    ∃ (why : Nat) (σ' τ' : St) (m : Nat), why ≤ 3 ∧ mX4_refusal σ (nI r) (nI f) a b c = some (nI why, σ') ∧ mX8_refusal τ (nI r) (nI f) a b c = some (nI why, τ') ∧ KE [28] σ σ' ∧ σ'.2 = σ.2 ∧ KE [39] τ τ' ∧
      (why = 0 → (r = 13 → (∃ t, t < T ∧ a = nI t ∧ m ≤ 2 ∧ τ.1 30 t = nI m) ∧ mX6_premises σ a = some (nI m)) ∧ RE L B T (kdM r m 0) τ a ∧ RE L B T (kdM r m 1) τ b ∧ RE L B T (kdM r m 2) τ c) := by
  have hF := hf.le
  have hT := hh.1.1
  have h10 := hh.1.2.2
  by_cases h13 : r = 13
  · subst h13
    rcases x6_prem hF hh a with ⟨t, m, htT, rfl, m2, e30, ep, ek⟩ | ⟨hn, ep, ek⟩
    · obtain ⟨N, n0, n1, n2, n3, n4⟩ := x8_needs hT h10 (r := 13) (by omega) (x := nI t) (fun _ => ⟨t, htT, rfl, m, m2, e30⟩)
      have eK : ∀ w, kdN τ.1 13 (nI t).toNatClampNeg w = kdM 13 m w := fun w => by
        unfold kdN kdM
        rw [if_pos rfl, if_pos rfl, n_cl (by omega), e30, n_cl (by omega)]
      rw [eK] at n2 n3 n4
      obtain ⟨d1, d2, d3⟩ := nd_dig n0
      rw [n2] at d1; rw [n3] at d2; rw [n4] at d3
      have hm : 13 = 13 → m ≤ 2 ∧ mX6_premises σ (nI t) = some (nI m) := fun _ => ⟨m2, ep⟩
      have q0 := x3_kind (s := σ) (r := 13) (m := m) (w := 0) (x := nI t) (by omega) (by omega) hm
      have q1 := x3_kind (s := σ) (r := 13) (m := m) (w := 1) (x := nI t) (by omega) (by omega) hm
      have q2 := x3_kind (s := σ) (r := 13) (m := m) (w := 2) (x := nI t) (by omega) (by omega) hm
      obtain ⟨c0, g0, g0', G0⟩ := reach_rel h hh (kdM_3 13 m 0 (by omega) (by omega)) (nI t)
      obtain ⟨c1, g1, g1', G1⟩ := reach_rel h hh (kdM_3 13 m 1 (by omega) (by omega)) b
      obtain ⟨c2, g2, g2', G2⟩ := reach_rel h hh (kdM_3 13 m 2 (by omega) (by omega)) c
      have ec := rf_c (p2 := nI f) q0 q1 q2 g0 g1 g2
      have em := rf_m (p2 := nI f) n1 d1 d2 d3 g0' g1' g2'
      by_cases hc : c0 = true ∧ c1 = true ∧ c2 = true
      · rw [if_pos hc] at ec em
        obtain ⟨k1, k2, k3⟩ := hc
        obtain ⟨why, σ', τ', w1, w2, w3, w4, w5, w6⟩ := theo_rel h hf hh htT hff e30 m2 ep (b := b) (c := c) (fun h0 => (G1 k2).1 (by unfold kdM; rw [if_pos rfl, if_neg (by omega), if_pos (by omega)])) (fun h0 => (G2 k3).1 (by unfold kdM; rw [if_pos rfl, if_neg (by omega), if_pos (by omega)])) (nI N) (nI (kdM 13 m 0))
        exact ⟨why, σ', τ', m, w1, ec.trans w2, em.trans w3, w4, w5, w6, fun _ => ⟨fun _ => ⟨⟨t, htT, rfl, m2, e30⟩, ep⟩, G0 k1, G1 k2, G2 k3⟩⟩
      · rw [if_neg hc] at ec em
        exact ⟨1, σ, τ, m, by omega, ec, em, KE.rf, rfl, KE.rf, fun h => by omega⟩
    · have q0 := x3_kind (s := σ) (r := 13) (m := 0) (w := 0) (x := a) (by omega) (by omega) (fun _ => ⟨by omega, ep⟩)
      have ek0 : nI (kdM 13 0 0) = nI 3 := rfl
      rw [ek0] at q0
      obtain ⟨c0, g0, g0', G0⟩ := reach_rel h hh (kd := 3) (by omega) a
      have hc0 : c0 = false := by
        cases c0
        · rfl
        · obtain ⟨t, t1, t2⟩ := (G0 rfl).2.2 rfl
          exact (hn t t1 t2).elim
      subst hc0
      rw [zB_0] at g0 g0'
      refine ⟨1, σ, τ, 0, by omega, ?_, ?_, KE.rf, rfl, KE.rf, fun h => by omega⟩
      · unfold mX4_refusal
        rw [show (0 : Int32) = nI 0 from rfl, q0, ob_s, g0, ob_s, if_pos rfl]; rfl
      · have en : mX8_needs τ (nI 13) a = some (nI 300) := by
          rcases x8_in1 a T (by omega) with ⟨t, ht, e, _⟩ | ⟨_, z⟩
          · exact (hn t ht e).elim
          · unfold mX8_needs
            rw [if_pos (by decide), h10]
            exact (congrArg (fun o : Option Int32 => o.bind fun r6 => if r6 = 0 then some 300 else chkI a 16 (if (τ.1 30 a.toNatClampNeg) ≤ 0 then mX8_needs_46 τ a 0 300 else mX8_needs_46 τ a 10 300)) (z τ)).trans rfl
        unfold mX8_refusal
        rw [en, ob_s]
        have e3 : nI 300 / 100 = nI 3 := by decide
        rw [e3, g0', ob_s, if_pos (show nI 0 = 0 from rfl)]; rfl
  · have hr12 : r ≤ 12 := by omega
    obtain ⟨N, n0, n1, n2, n3, n4⟩ := x8_needs hT h10 (r := r) (by omega) (x := a) (fun h => absurd h h13)
    have eK : ∀ w, kdN τ.1 r a.toNatClampNeg w = kdM r 0 w := fun w => by
      unfold kdN kdM
      rw [if_neg h13, if_neg h13]
    rw [eK] at n2 n3 n4
    obtain ⟨d1, d2, d3⟩ := nd_dig n0
    rw [n2] at d1; rw [n3] at d2; rw [n4] at d3
    have hm : r = 13 → 0 ≤ 2 ∧ mX6_premises σ a = some (nI 0) := fun h => absurd h h13
    have q0 := x3_kind (s := σ) (r := r) (m := 0) (w := 0) (x := a) (by omega) (by omega) hm
    have q1 := x3_kind (s := σ) (r := r) (m := 0) (w := 1) (x := a) (by omega) (by omega) hm
    have q2 := x3_kind (s := σ) (r := r) (m := 0) (w := 2) (x := a) (by omega) (by omega) hm
    obtain ⟨c0, g0, g0', G0⟩ := reach_rel h hh (kdM_3 r 0 0 (by omega) (by omega)) a
    obtain ⟨c1, g1, g1', G1⟩ := reach_rel h hh (kdM_3 r 0 1 (by omega) (by omega)) b
    obtain ⟨c2, g2, g2', G2⟩ := reach_rel h hh (kdM_3 r 0 2 (by omega) (by omega)) c
    have ec := rf_c (p2 := nI f) q0 q1 q2 g0 g1 g2
    have em := rf_m (p2 := nI f) n1 d1 d2 d3 g0' g1' g2'
    by_cases hc : c0 = true ∧ c1 = true ∧ c2 = true
    · rw [if_pos hc] at ec em
      obtain ⟨k1, k2, k3⟩ := hc
      obtain ⟨why, w1, w2, w3⟩ := rules_rel h hf hr12 hff (G0 k1) (G1 k2) (G2 k3) d2
      exact ⟨why, σ, τ, 0, w1, ec.trans w2, em.trans w3, KE.rf, rfl, KE.rf, fun _ => ⟨fun h => absurd h h13, G0 k1, G1 k2, G2 k3⟩⟩
    · rw [if_neg hc] at ec em
      exact ⟨1, σ, τ, 0, by omega, ec, em, KE.rf, rfl, KE.rf, fun h => by omega⟩
