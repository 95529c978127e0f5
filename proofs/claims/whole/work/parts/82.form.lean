theorem loop_and {d : Nat} {fB fF fP : St → Int32 → Option (Int32 × St)} {gF gP : St → Int32 → Option (Int32 × St)} {gR : St → Int32 → Int32 → Option (Int32 × St)} (hX : SIMF d fP gP) {N A P : Nat} {s t : St} {nums : Nat → Int32} (h : PRE N A P s t) :
    ∀ q n n' i A1 P1 nums1 v1 s1 w1 t1, N + 1 ≤ A1 + q → q < n → q < n' → i + 1 ≤ A1 → SUC N A P s t nums A1 P1 nums1 v1 s1 w1 t1 →
      ∃ v' s' w' t', mX5_both_8 fB fF fP n s1 (nI d) v1 (nI i) = some (v', s') ∧ mX8_row_20 gF gP gR n' t1 (nI d) (nI 3) w1 = some (w', t') ∧ (ERR s t s' w' t' ∨ ∃ A' P' nums', SUC N A P s t nums A' P' nums' v' s' w' t') := by
  intro q
  induction q with
  | zero =>
    intro n n' i A1 P1 nums1 v1 s1 w1 t1 hq hn hn' hi S
    have := S.2.1.1.1.1
    omega
  | succ q ih =>
    intro n n' i A1 P1 nums1 v1 s1 w1 t1 hq hn hn' hi S
    obtain ⟨n, rfl⟩ : ∃ m, n = m + 2 := ⟨n - 2, by omega⟩
    obtain ⟨n', rfl⟩ : ∃ m, n' = m + 2 := ⟨n' - 2, by omega⟩
    have hAN := S.2.1.1.1.1
    have hN := S.2.1.1.1.2.1
    have hPA := S.2.1.2.2.2.2
    have wv : w1 = nI (P1 - 1) := S.1.2.2.2.1
    obtain ⟨b, A2, s2, t2, u1, u2, u3, u4, u5, u6, u7, u8⟩ := takes_rel S.2.1.1 S.2.1.2.1 (c := 38) (by omega)
    cases b
    · rw [zB_0] at u1 u2
      refine ⟨v1, s2, w1, t2, ?_, ?_, Or.inr ⟨A2, P1, nums1, S.trail u4 u6 u5 u3 u7⟩⟩
      · simp (implicitDefEqProofs := false) (disch := omega) only [fx_s, bX5_both_8, u1, ↓bnd_e, ↓ob_s, ob_s, su_1, su_2, sl_1, sl_2, ↓ck_n, ck_n, ck_Z0, ck_Z1, c_lt, c_le, c_eq, ng_1, m_ne, m_en, m_lt, m_le, m_gt, m_ge, n_add, n_mul, n_sub, n_sm, n_pm, n_0m, n_cl, Nat.reduceEqDiff, ↓reduceIte, nle_T, nle_F, nlt_T, nlt_F, neq_F, neq_T, if_true, if_false, true_and, and_true, Nat.mul_zero, Nat.zero_add, Nat.add_zero, Nat.reduceAdd, Nat.reduceMul, Nat.reduceSub, li_0, li_1, li_2, li_3, li_4, li_5, li_6, li_7, li_8, li_9, li_10, li_11, li_12, li_13, li_14, li_15, li_16, li_20, li_24, li_28, li_31, li_35, li_38, li_40, li_41, li_45, li_48, li_60, li_62, li_63, li_97, li_100, li_104, li_105, li_120, li_124, li_127, li_180, li_239, li_240, li_255, li_256, li_300, li_400, li_960, li_1000000]
      · rw [wv]
        simp (implicitDefEqProofs := false) (disch := omega) only [fx_s, bX8_row_20, mX8_row_38, u2, ↓bnd_e, ↓ob_s, ob_s, su_1, su_2, sl_1, sl_2, ↓ck_n, ck_n, ck_Z0, ck_Z1, c_lt, c_le, c_eq, ng_1, m_ne, m_en, m_lt, m_le, m_gt, m_ge, n_add, n_mul, n_sub, n_sm, n_pm, n_0m, n_cl, Nat.reduceEqDiff, ↓reduceIte, nle_T, nle_F, nlt_T, nlt_F, neq_F, neq_T, if_true, if_false, true_and, and_true, Nat.mul_zero, Nat.zero_add, Nat.add_zero, Nat.reduceAdd, Nat.reduceMul, Nat.reduceSub, li_0, li_1, li_2, li_3, li_4, li_5, li_6, li_7, li_8, li_9, li_10, li_11, li_12, li_13, li_14, li_15, li_16, li_20, li_24, li_28, li_31, li_35, li_38, li_40, li_41, li_45, li_48, li_60, li_62, li_63, li_97, li_100, li_104, li_105, li_120, li_124, li_127, li_180, li_239, li_240, li_255, li_256, li_300, li_400, li_960, li_1000000]
    · rw [zB_1] at u1 u2
      have hlt := u8 rfl
      have hpre := S.2.1.mv u4 u5 u3 (by omega)
      obtain ⟨v3, s3, w3, t3, e1, e2, hE | ⟨A3, P3, nums3, hS⟩⟩ := hX N A2 P1 s2 t2 nums1 hpre
      · obtain ⟨r, sr, f1, f2⟩ := hE.num (nI 3) v1 v3
        have hE' := f2.pre (S.2.2.1.tr (S.2.1.gr u4 u6)) (S.2.2.2.1.tr (u5.wk (by decide)))
        have w0 := hE.1
        subst w0
        have tk := f2.tk (nI 38)
        refine ⟨r, sr, mI, t3, ?_, ?_, Or.inl hE'⟩
        · by_cases h4 : 400 ≤ i + 1
          · simp (implicitDefEqProofs := false) (disch := omega) only [fx_s, bX5_both_8, u1, e1, f1, ↓bnd_e, ↓ob_s, ob_s, su_1, su_2, sl_1, sl_2, ↓ck_n, ck_n, ck_Z0, ck_Z1, c_lt, c_le, c_eq, ng_1, m_ne, m_en, m_lt, m_le, m_gt, m_ge, n_add, n_mul, n_sub, n_sm, n_pm, n_0m, n_cl, Nat.reduceEqDiff, ↓reduceIte, nle_T, nle_F, nlt_T, nlt_F, neq_F, neq_T, if_true, if_false, true_and, and_true, Nat.mul_zero, Nat.zero_add, Nat.add_zero, Nat.reduceAdd, Nat.reduceMul, Nat.reduceSub, li_0, li_1, li_2, li_3, li_4, li_5, li_6, li_7, li_8, li_9, li_10, li_11, li_12, li_13, li_14, li_15, li_16, li_20, li_24, li_28, li_31, li_35, li_38, li_40, li_41, li_45, li_48, li_60, li_62, li_63, li_97, li_100, li_104, li_105, li_120, li_124, li_127, li_180, li_239, li_240, li_255, li_256, li_300, li_400, li_960, li_1000000]
          · simp (implicitDefEqProofs := false) (disch := omega) only [fx_s, bX5_both_8, u1, e1, f1, tk, ↓bnd_e, ↓ob_s, ob_s, su_1, su_2, sl_1, sl_2, ↓ck_n, ck_n, ck_Z0, ck_Z1, c_lt, c_le, c_eq, ng_1, m_ne, m_en, m_lt, m_le, m_gt, m_ge, n_add, n_mul, n_sub, n_sm, n_pm, n_0m, n_cl, Nat.reduceEqDiff, ↓reduceIte, nle_T, nle_F, nlt_T, nlt_F, neq_F, neq_T, if_true, if_false, true_and, and_true, Nat.mul_zero, Nat.zero_add, Nat.add_zero, Nat.reduceAdd, Nat.reduceMul, Nat.reduceSub, li_0, li_1, li_2, li_3, li_4, li_5, li_6, li_7, li_8, li_9, li_10, li_11, li_12, li_13, li_14, li_15, li_16, li_20, li_24, li_28, li_31, li_35, li_38, li_40, li_41, li_45, li_48, li_60, li_62, li_63, li_97, li_100, li_104, li_105, li_120, li_124, li_127, li_180, li_239, li_240, li_255, li_256, li_300, li_400, li_960, li_1000000]
        · rw [wv]
          have e2' : gP t2 (nI d) = some (mI, t3) := e2
          simp (implicitDefEqProofs := false) (disch := omega) only [fx_s, bX8_row_20, mX8_row_38, mX8_row_63, mX8_row_83, u2, e2', ↓bnd_e, ↓ob_s, ob_s, su_1, su_2, sl_1, sl_2, ↓ck_n, ck_n, ck_Z0, ck_Z1, c_lt, c_le, c_eq, ng_1, m_ne, m_en, m_lt, m_le, m_gt, m_ge, n_add, n_mul, n_sub, n_sm, n_pm, n_0m, n_cl, Nat.reduceEqDiff, ↓reduceIte, nle_T, nle_F, nlt_T, nlt_F, neq_F, neq_T, if_true, if_false, true_and, and_true, Nat.mul_zero, Nat.zero_add, Nat.add_zero, Nat.reduceAdd, Nat.reduceMul, Nat.reduceSub, li_0, li_1, li_2, li_3, li_4, li_5, li_6, li_7, li_8, li_9, li_10, li_11, li_12, li_13, li_14, li_15, li_16, li_20, li_24, li_28, li_31, li_35, li_38, li_40, li_41, li_45, li_48, li_60, li_62, li_63, li_97, li_100, li_104, li_105, li_120, li_124, li_127, li_180, li_239, li_240, li_255, li_256, li_300, li_400, li_960, li_1000000]
      · obtain ⟨r, sr, tr, nums4, f1, f2, f3⟩ := SUC.bin (so := 3) (by omega) (by omega) S u4 u6 u5 hlt hS
        have hAA := hS.1.1
        obtain ⟨v', s', w', t', i1, i2, i3⟩ := ih (n + 1) (n' + 1) (i + 1) A3 (P3 + 1) nums4 r sr (nI P3) tr (by omega) (by omega) (by omega) (by omega) f3
        have wv3 : w3 = nI (P3 - 1) := hS.1.2.2.2.1
        have hP400 : P3 ≤ 400 := by have := hS.2.1.2.2.2.2; have := hS.2.1.1.1.1; omega
        refine ⟨v', s', w', t', ?_, ?_, i3⟩
        · rw [← i1]
          have e0 : mX5_both_8 fB fF fP (n + 2) s1 (nI d) v1 (nI i) = bX5_both_8 fB fF fP (mX5_both_8 fB fF fP (n + 1)) s1 (nI d) v1 (nI i) := rfl
          rw [e0]
          simp (implicitDefEqProofs := false) (disch := omega) only [bX5_both_8, u1, e1, f1, ↓bnd_e, ↓ob_s, ob_s, su_1, su_2, sl_1, sl_2, ↓ck_n, ck_n, ck_Z0, ck_Z1, c_lt, c_le, c_eq, ng_1, m_ne, m_en, m_lt, m_le, m_gt, m_ge, n_add, n_mul, n_sub, n_sm, n_pm, n_0m, n_cl, Nat.reduceEqDiff, ↓reduceIte, nle_T, nle_F, nlt_T, nlt_F, neq_F, neq_T, if_true, if_false, true_and, and_true, Nat.mul_zero, Nat.zero_add, Nat.add_zero, Nat.reduceAdd, Nat.reduceMul, Nat.reduceSub, li_0, li_1, li_2, li_3, li_4, li_5, li_6, li_7, li_8, li_9, li_10, li_11, li_12, li_13, li_14, li_15, li_16, li_20, li_24, li_28, li_31, li_35, li_38, li_40, li_41, li_45, li_48, li_60, li_62, li_63, li_97, li_100, li_104, li_105, li_120, li_124, li_127, li_180, li_239, li_240, li_255, li_256, li_300, li_400, li_960, li_1000000]
        · rw [← i2]
          have e0 : mX8_row_20 gF gP gR (n' + 2) t1 (nI d) (nI 3) w1 = bX8_row_20 gF gP gR (mX8_row_20 gF gP gR (n' + 1)) t1 (nI d) (nI 3) w1 := rfl
          rw [e0]
          rw [wv] at f2 ⊢
          rw [wv3] at e2 f2
          have e2' : gP t2 (nI d) = some (nI (P3 - 1), t3) := e2
          simp (implicitDefEqProofs := false) (disch := omega) only [bX8_row_20, mX8_row_38, mX8_row_63, mX8_row_83, u2, e2', f2, ↓bnd_e, ↓ob_s, ob_s, su_1, su_2, sl_1, sl_2, ↓ck_n, ck_n, ck_Z0, ck_Z1, c_lt, c_le, c_eq, ng_1, m_ne, m_en, m_lt, m_le, m_gt, m_ge, n_add, n_mul, n_sub, n_sm, n_pm, n_0m, n_cl, Nat.reduceEqDiff, ↓reduceIte, nle_T, nle_F, nlt_T, nlt_F, neq_F, neq_T, if_true, if_false, true_and, and_true, Nat.mul_zero, Nat.zero_add, Nat.add_zero, Nat.reduceAdd, Nat.reduceMul, Nat.reduceSub, li_0, li_1, li_2, li_3, li_4, li_5, li_6, li_7, li_8, li_9, li_10, li_11, li_12, li_13, li_14, li_15, li_16, li_20, li_24, li_28, li_31, li_35, li_38, li_40, li_41, li_45, li_48, li_60, li_62, li_63, li_97, li_100, li_104, li_105, li_120, li_124, li_127, li_180, li_239, li_240, li_255, li_256, li_300, li_400, li_960, li_1000000]
theorem loop_or {d : Nat} {fB fF fP : St → Int32 → Option (Int32 × St)} {gF gP : St → Int32 → Option (Int32 × St)} {gR : St → Int32 → Int32 → Option (Int32 × St)} (hX : SIMF d fB (fun t x => gR t x (nI 3))) {N A P : Nat} {s t : St} {nums : Nat → Int32} (h : PRE N A P s t) :
    ∀ q n n' i A1 P1 nums1 v1 s1 w1 t1, N + 1 ≤ A1 + q → q < n → q < n' → i + 1 ≤ A1 → SUC N A P s t nums A1 P1 nums1 v1 s1 w1 t1 →
      ∃ v' s' w' t', mX5_form_8 fB fF fP n s1 (nI d) v1 (nI i) = mX5_form_45 fB fF fP s' (nI d) v' ∧ mX8_row_20 gF gP gR n' t1 (nI d) (nI 4) w1 = some (w', t') ∧ (ERR s t s' w' t' ∨ ∃ A' P' nums', SUC N A P s t nums A' P' nums' v' s' w' t') := by
  intro q
  induction q with
  | zero =>
    intro n n' i A1 P1 nums1 v1 s1 w1 t1 hq hn hn' hi S
    have := S.2.1.1.1.1
    omega
  | succ q ih =>
    intro n n' i A1 P1 nums1 v1 s1 w1 t1 hq hn hn' hi S
    obtain ⟨n, rfl⟩ : ∃ m, n = m + 2 := ⟨n - 2, by omega⟩
    obtain ⟨n', rfl⟩ : ∃ m, n' = m + 2 := ⟨n' - 2, by omega⟩
    have hAN := S.2.1.1.1.1
    have hN := S.2.1.1.1.2.1
    have hPA := S.2.1.2.2.2.2
    have wv : w1 = nI (P1 - 1) := S.1.2.2.2.1
    obtain ⟨b, A2, s2, t2, u1, u2, u3, u4, u5, u6, u7, u8⟩ := takes_rel S.2.1.1 S.2.1.2.1 (c := 124) (by omega)
    cases b
    · rw [zB_0] at u1 u2
      refine ⟨v1, s2, w1, t2, ?_, ?_, Or.inr ⟨A2, P1, nums1, S.trail u4 u6 u5 u3 u7⟩⟩
      · simp (implicitDefEqProofs := false) (disch := omega) only [fx_s, bX5_form_8, u1, ↓bnd_e, ↓ob_s, ob_s, su_1, su_2, sl_1, sl_2, ↓ck_n, ck_n, ck_Z0, ck_Z1, c_lt, c_le, c_eq, ng_1, m_ne, m_en, m_lt, m_le, m_gt, m_ge, n_add, n_mul, n_sub, n_sm, n_pm, n_0m, n_cl, Nat.reduceEqDiff, ↓reduceIte, nle_T, nle_F, nlt_T, nlt_F, neq_F, neq_T, if_true, if_false, true_and, and_true, Nat.mul_zero, Nat.zero_add, Nat.add_zero, Nat.reduceAdd, Nat.reduceMul, Nat.reduceSub, li_0, li_1, li_2, li_3, li_4, li_5, li_6, li_7, li_8, li_9, li_10, li_11, li_12, li_13, li_14, li_15, li_16, li_20, li_24, li_28, li_31, li_35, li_38, li_40, li_41, li_45, li_48, li_60, li_62, li_63, li_97, li_100, li_104, li_105, li_120, li_124, li_127, li_180, li_239, li_240, li_255, li_256, li_300, li_400, li_960, li_1000000]
      · rw [wv]
        simp (implicitDefEqProofs := false) (disch := omega) only [fx_s, bX8_row_20, mX8_row_38, u2, ↓bnd_e, ↓ob_s, ob_s, su_1, su_2, sl_1, sl_2, ↓ck_n, ck_n, ck_Z0, ck_Z1, c_lt, c_le, c_eq, ng_1, m_ne, m_en, m_lt, m_le, m_gt, m_ge, n_add, n_mul, n_sub, n_sm, n_pm, n_0m, n_cl, Nat.reduceEqDiff, ↓reduceIte, nle_T, nle_F, nlt_T, nlt_F, neq_F, neq_T, if_true, if_false, true_and, and_true, Nat.mul_zero, Nat.zero_add, Nat.add_zero, Nat.reduceAdd, Nat.reduceMul, Nat.reduceSub, li_0, li_1, li_2, li_3, li_4, li_5, li_6, li_7, li_8, li_9, li_10, li_11, li_12, li_13, li_14, li_15, li_16, li_20, li_24, li_28, li_31, li_35, li_38, li_40, li_41, li_45, li_48, li_60, li_62, li_63, li_97, li_100, li_104, li_105, li_120, li_124, li_127, li_180, li_239, li_240, li_255, li_256, li_300, li_400, li_960, li_1000000]
    · rw [zB_1] at u1 u2
      have hlt := u8 rfl
      have hpre := S.2.1.mv u4 u5 u3 (by omega)
      obtain ⟨v3, s3, w3, t3, e1, e2, hE | ⟨A3, P3, nums3, hS⟩⟩ := hX N A2 P1 s2 t2 nums1 hpre
      · obtain ⟨r, sr, f1, f2⟩ := hE.num (nI 4) v1 v3
        have hE' := f2.pre (S.2.2.1.tr (S.2.1.gr u4 u6)) (S.2.2.2.1.tr (u5.wk (by decide)))
        have w0 := hE.1
        subst w0
        have tk := f2.tk (nI 124)
        refine ⟨r, sr, mI, t3, ?_, ?_, Or.inl hE'⟩
        · by_cases h4 : 400 ≤ i + 1
          · simp (implicitDefEqProofs := false) (disch := omega) only [fx_s, bX5_form_8, u1, e1, f1, ↓bnd_e, ↓ob_s, ob_s, su_1, su_2, sl_1, sl_2, ↓ck_n, ck_n, ck_Z0, ck_Z1, c_lt, c_le, c_eq, ng_1, m_ne, m_en, m_lt, m_le, m_gt, m_ge, n_add, n_mul, n_sub, n_sm, n_pm, n_0m, n_cl, Nat.reduceEqDiff, ↓reduceIte, nle_T, nle_F, nlt_T, nlt_F, neq_F, neq_T, if_true, if_false, true_and, and_true, Nat.mul_zero, Nat.zero_add, Nat.add_zero, Nat.reduceAdd, Nat.reduceMul, Nat.reduceSub, li_0, li_1, li_2, li_3, li_4, li_5, li_6, li_7, li_8, li_9, li_10, li_11, li_12, li_13, li_14, li_15, li_16, li_20, li_24, li_28, li_31, li_35, li_38, li_40, li_41, li_45, li_48, li_60, li_62, li_63, li_97, li_100, li_104, li_105, li_120, li_124, li_127, li_180, li_239, li_240, li_255, li_256, li_300, li_400, li_960, li_1000000]
          · simp (implicitDefEqProofs := false) (disch := omega) only [fx_s, bX5_form_8, u1, e1, f1, tk, ↓bnd_e, ↓ob_s, ob_s, su_1, su_2, sl_1, sl_2, ↓ck_n, ck_n, ck_Z0, ck_Z1, c_lt, c_le, c_eq, ng_1, m_ne, m_en, m_lt, m_le, m_gt, m_ge, n_add, n_mul, n_sub, n_sm, n_pm, n_0m, n_cl, Nat.reduceEqDiff, ↓reduceIte, nle_T, nle_F, nlt_T, nlt_F, neq_F, neq_T, if_true, if_false, true_and, and_true, Nat.mul_zero, Nat.zero_add, Nat.add_zero, Nat.reduceAdd, Nat.reduceMul, Nat.reduceSub, li_0, li_1, li_2, li_3, li_4, li_5, li_6, li_7, li_8, li_9, li_10, li_11, li_12, li_13, li_14, li_15, li_16, li_20, li_24, li_28, li_31, li_35, li_38, li_40, li_41, li_45, li_48, li_60, li_62, li_63, li_97, li_100, li_104, li_105, li_120, li_124, li_127, li_180, li_239, li_240, li_255, li_256, li_300, li_400, li_960, li_1000000]
        · rw [wv]
          have e2' : gR t2 (nI d) (nI 3) = some (mI, t3) := e2
          simp (implicitDefEqProofs := false) (disch := omega) only [fx_s, bX8_row_20, mX8_row_38, mX8_row_63, mX8_row_83, u2, e2', ↓bnd_e, ↓ob_s, ob_s, su_1, su_2, sl_1, sl_2, ↓ck_n, ck_n, ck_Z0, ck_Z1, c_lt, c_le, c_eq, ng_1, m_ne, m_en, m_lt, m_le, m_gt, m_ge, n_add, n_mul, n_sub, n_sm, n_pm, n_0m, n_cl, Nat.reduceEqDiff, ↓reduceIte, nle_T, nle_F, nlt_T, nlt_F, neq_F, neq_T, if_true, if_false, true_and, and_true, Nat.mul_zero, Nat.zero_add, Nat.add_zero, Nat.reduceAdd, Nat.reduceMul, Nat.reduceSub, li_0, li_1, li_2, li_3, li_4, li_5, li_6, li_7, li_8, li_9, li_10, li_11, li_12, li_13, li_14, li_15, li_16, li_20, li_24, li_28, li_31, li_35, li_38, li_40, li_41, li_45, li_48, li_60, li_62, li_63, li_97, li_100, li_104, li_105, li_120, li_124, li_127, li_180, li_239, li_240, li_255, li_256, li_300, li_400, li_960, li_1000000]
      · obtain ⟨r, sr, tr, nums4, f1, f2, f3⟩ := SUC.bin (so := 4) (by omega) (by omega) S u4 u6 u5 hlt hS
        have hAA := hS.1.1
        obtain ⟨v', s', w', t', i1, i2, i3⟩ := ih (n + 1) (n' + 1) (i + 1) A3 (P3 + 1) nums4 r sr (nI P3) tr (by omega) (by omega) (by omega) (by omega) f3
        have wv3 : w3 = nI (P3 - 1) := hS.1.2.2.2.1
        have hP400 : P3 ≤ 400 := by have := hS.2.1.2.2.2.2; have := hS.2.1.1.1.1; omega
        refine ⟨v', s', w', t', ?_, ?_, i3⟩
        · rw [← i1]
          have e0 : mX5_form_8 fB fF fP (n + 2) s1 (nI d) v1 (nI i) = bX5_form_8 fB fF fP (mX5_form_8 fB fF fP (n + 1)) s1 (nI d) v1 (nI i) := rfl
          rw [e0]
          simp (implicitDefEqProofs := false) (disch := omega) only [bX5_form_8, u1, e1, f1, ↓bnd_e, ↓ob_s, ob_s, su_1, su_2, sl_1, sl_2, ↓ck_n, ck_n, ck_Z0, ck_Z1, c_lt, c_le, c_eq, ng_1, m_ne, m_en, m_lt, m_le, m_gt, m_ge, n_add, n_mul, n_sub, n_sm, n_pm, n_0m, n_cl, Nat.reduceEqDiff, ↓reduceIte, nle_T, nle_F, nlt_T, nlt_F, neq_F, neq_T, if_true, if_false, true_and, and_true, Nat.mul_zero, Nat.zero_add, Nat.add_zero, Nat.reduceAdd, Nat.reduceMul, Nat.reduceSub, li_0, li_1, li_2, li_3, li_4, li_5, li_6, li_7, li_8, li_9, li_10, li_11, li_12, li_13, li_14, li_15, li_16, li_20, li_24, li_28, li_31, li_35, li_38, li_40, li_41, li_45, li_48, li_60, li_62, li_63, li_97, li_100, li_104, li_105, li_120, li_124, li_127, li_180, li_239, li_240, li_255, li_256, li_300, li_400, li_960, li_1000000]
        · rw [← i2]
          have e0 : mX8_row_20 gF gP gR (n' + 2) t1 (nI d) (nI 4) w1 = bX8_row_20 gF gP gR (mX8_row_20 gF gP gR (n' + 1)) t1 (nI d) (nI 4) w1 := rfl
          rw [e0]
          rw [wv] at f2 ⊢
          rw [wv3] at e2 f2
          have e2' : gR t2 (nI d) (nI 3) = some (nI (P3 - 1), t3) := e2
          simp (implicitDefEqProofs := false) (disch := omega) only [bX8_row_20, mX8_row_38, mX8_row_63, mX8_row_83, u2, e2', f2, ↓bnd_e, ↓ob_s, ob_s, su_1, su_2, sl_1, sl_2, ↓ck_n, ck_n, ck_Z0, ck_Z1, c_lt, c_le, c_eq, ng_1, m_ne, m_en, m_lt, m_le, m_gt, m_ge, n_add, n_mul, n_sub, n_sm, n_pm, n_0m, n_cl, Nat.reduceEqDiff, ↓reduceIte, nle_T, nle_F, nlt_T, nlt_F, neq_F, neq_T, if_true, if_false, true_and, and_true, Nat.mul_zero, Nat.zero_add, Nat.add_zero, Nat.reduceAdd, Nat.reduceMul, Nat.reduceSub, li_0, li_1, li_2, li_3, li_4, li_5, li_6, li_7, li_8, li_9, li_10, li_11, li_12, li_13, li_14, li_15, li_16, li_20, li_24, li_28, li_31, li_35, li_38, li_40, li_41, li_45, li_48, li_60, li_62, li_63, li_97, li_100, li_104, li_105, li_120, li_124, li_127, li_180, li_239, li_240, li_255, li_256, li_300, li_400, li_960, li_1000000]
theorem sim_both {d : Nat} {fB fF fP : St → Int32 → Option (Int32 × St)} {gF gP : St → Int32 → Option (Int32 × St)} {gR : St → Int32 → Int32 → Option (Int32 × St)} (hX : SIMF d fP gP) : SIMF d (bX5_both fB fF fP) (fun t x => bX8_row gF gP gR t x (nI 3)) := by
  intro N A P s t nums h
  have hN := h.1.1.2.1
  obtain ⟨v, s1, w, t1, e1, e2, hE | ⟨A1, P1, nums1, S⟩⟩ := hX N A P s t nums h
  · have tk := hE.tk (nI 38)
    have w0 := hE.1
    subst w0
    obtain ⟨nf, hnf⟩ := NF_5
    refine SIM.e hE (v := v) ?_ ?_
    · unfold bX5_both
      rw [e1, ob_s]
      dsimp only
      rw [hnf]
      simp (implicitDefEqProofs := false) (disch := omega) only [fx_s, bX5_both_8, tk, ↓bnd_e, ↓ob_s, ob_s, su_1, su_2, sl_1, sl_2, ↓ck_n, ck_n, ck_Z0, ck_Z1, c_lt, c_le, c_eq, ng_1, m_ne, m_en, m_lt, m_le, m_gt, m_ge, n_add, n_mul, n_sub, n_sm, n_pm, n_0m, n_cl, Nat.reduceEqDiff, ↓reduceIte, nle_T, nle_F, nlt_T, nlt_F, neq_F, neq_T, if_true, if_false, true_and, and_true, Nat.mul_zero, Nat.zero_add, Nat.add_zero, Nat.reduceAdd, Nat.reduceMul, Nat.reduceSub, li_0, li_1, li_2, li_3, li_4, li_5, li_6, li_7, li_8, li_9, li_10, li_11, li_12, li_13, li_14, li_15, li_16, li_20, li_24, li_28, li_31, li_35, li_38, li_40, li_41, li_45, li_48, li_60, li_62, li_63, li_97, li_100, li_104, li_105, li_120, li_124, li_127, li_180, li_239, li_240, li_255, li_256, li_300, li_400, li_960, li_1000000]
    · show bX8_row gF gP gR t (nI d) (nI 3) = _
      unfold bX8_row
      rw [if_neg (by decide), e2, ob_s]
      dsimp only
      unfold mX8_row_19
      rw [hnf]
      simp (implicitDefEqProofs := false) (disch := omega) only [fx_s, bX8_row_20, ↓bnd_e, ↓ob_s, ob_s, su_1, su_2, sl_1, sl_2, ↓ck_n, ck_n, ck_Z0, ck_Z1, c_lt, c_le, c_eq, ng_1, m_ne, m_en, m_lt, m_le, m_gt, m_ge, n_add, n_mul, n_sub, n_sm, n_pm, n_0m, n_cl, Nat.reduceEqDiff, ↓reduceIte, nle_T, nle_F, nlt_T, nlt_F, neq_F, neq_T, if_true, if_false, true_and, and_true, Nat.mul_zero, Nat.zero_add, Nat.add_zero, Nat.reduceAdd, Nat.reduceMul, Nat.reduceSub, li_0, li_1, li_2, li_3, li_4, li_5, li_6, li_7, li_8, li_9, li_10, li_11, li_12, li_13, li_14, li_15, li_16, li_20, li_24, li_28, li_31, li_35, li_38, li_40, li_41, li_45, li_48, li_60, li_62, li_63, li_97, li_100, li_104, li_105, li_120, li_124, li_127, li_180, li_239, li_240, li_255, li_256, li_300, li_400, li_960, li_1000000]
  · have hA1 := S.1.1
    have hAN := S.2.1.1.1.1
    obtain ⟨v', s', w', t', i1, i2, i3⟩ := loop_and (fB := fB) (fF := fF) (gF := gF) (gR := gR) hX h (N + 1) NF NF 0 A1 P1 nums1 v s1 w t1 (by omega) (by show N + 1 < 1000; omega) (by show N + 1 < 1000; omega) (by omega) S
    refine ⟨v', s', w', t', ?_, ?_, i3⟩
    · unfold bX5_both
      rw [e1, ob_s]
      exact i1
    · show bX8_row gF gP gR t (nI d) (nI 3) = _
      unfold bX8_row
      rw [if_neg (by decide), e2, ob_s]
      exact i2
theorem sim_form {d : Nat} (hd : d ≤ 10) {fB fF fP : St → Int32 → Option (Int32 × St)} {gF1 gP1 gF2 gP2 : St → Int32 → Option (Int32 × St)} {gR1 gR2 : St → Int32 → Int32 → Option (Int32 × St)} (hB : SIMF d fB (fun t x => gR2 t x (nI 3))) (hgR : ∀ t x, gR1 t x (nI 4) = bX8_row gF2 gP2 gR2 t x (nI 4))
    (hF : SIMF (d + 1) fF gF1) (hskip : ∀ s s' v, mX5_next s = some (v, s') → mX5_next s' = some (v, s') → fB s (nI d) = fB s' (nI d)) : SIMF d (bX5_form fB fF fP) (bX8_form gF1 gP1 gR1) := by
  intro N A P s t nums h
  have hN := h.1.1.2.1
  obtain ⟨A0, s0, t0, x1, x2, x3, x4, x5, x6, x7, x8, x9⟩ := next_rel h.1
  have h0 := h.mv x4 x5 x3 x7
  have sk := hskip s s0 _ x1 x9
  have hm : bX8_form gF1 gP1 gR1 t (nI d) = (bX8_row gF2 gP2 gR2 t0 (nI d) (nI 4)).bind fun ⟨r5, s7⟩ => if r5 = (-1) then some (r5, s7) else (mX8_takes s7 62).bind fun ⟨r9, s11⟩ => if r9 = 0 then some (r5, s11) else (gF1 s11 (nI d + 1)).bind fun ⟨r13, s15⟩ => if r13 = (-1) then some ((-1), s15) else (mX8_part s15 5 r5 r13).bind fun ⟨r17, s19⟩ => some (r17, s19) := by
    unfold bX8_form
    rw [x2, ob_s]
    dsimp only
    rw [if_pos (by rw [show (10 : Int32) = nI 10 from rfl, c_le (by omega) (by omega)]; exact hd), ← hgR t0 (nI d)]
    rfl
  -- both, and all that is joined by or
  have rowv : ∃ v s2 w t2, bX5_form fB fF fP s (nI d) = mX5_form_45 fB fF fP s2 (nI d) v ∧ bX8_row gF2 gP2 gR2 t0 (nI d) (nI 4) = some (w, t2) ∧ (ERR s0 t0 s2 w t2 ∨ ∃ A' P' nums', SUC N A0 P s0 t0 nums A' P' nums' v s2 w t2) := by
    obtain ⟨v, s1, w, t1, e1, e2, hE | ⟨A1, P1, nums1, S⟩⟩ := hB N A0 P s0 t0 nums h0
    · have tk := hE.tk (nI 124)
      have w0 := hE.1
      subst w0
      obtain ⟨nf, hnf⟩ := NF_5
      have e2' : gR2 t0 (nI d) (nI 3) = some (mI, t1) := e2
      refine ⟨v, s1, mI, t1, ?_, ?_, Or.inl hE⟩
      · unfold bX5_form
        rw [sk, e1, ob_s]
        dsimp only
        rw [hnf]
        simp (implicitDefEqProofs := false) (disch := omega) only [fx_s, bX5_form_8, tk, ↓bnd_e, ↓ob_s, ob_s, su_1, su_2, sl_1, sl_2, ↓ck_n, ck_n, ck_Z0, ck_Z1, c_lt, c_le, c_eq, ng_1, m_ne, m_en, m_lt, m_le, m_gt, m_ge, n_add, n_mul, n_sub, n_sm, n_pm, n_0m, n_cl, Nat.reduceEqDiff, ↓reduceIte, nle_T, nle_F, nlt_T, nlt_F, neq_F, neq_T, if_true, if_false, true_and, and_true, Nat.mul_zero, Nat.zero_add, Nat.add_zero, Nat.reduceAdd, Nat.reduceMul, Nat.reduceSub, li_0, li_1, li_2, li_3, li_4, li_5, li_6, li_7, li_8, li_9, li_10, li_11, li_12, li_13, li_14, li_15, li_16, li_20, li_24, li_28, li_31, li_35, li_38, li_40, li_41, li_45, li_48, li_60, li_62, li_63, li_97, li_100, li_104, li_105, li_120, li_124, li_127, li_180, li_239, li_240, li_255, li_256, li_300, li_400, li_960, li_1000000]
      · unfold bX8_row
        rw [if_pos (by decide), show (3 : Int32) = nI 3 from rfl, e2', ob_s]
        dsimp only
        unfold mX8_row_19
        rw [hnf]
        simp (implicitDefEqProofs := false) (disch := omega) only [fx_s, bX8_row_20, ↓bnd_e, ↓ob_s, ob_s, su_1, su_2, sl_1, sl_2, ↓ck_n, ck_n, ck_Z0, ck_Z1, c_lt, c_le, c_eq, ng_1, m_ne, m_en, m_lt, m_le, m_gt, m_ge, n_add, n_mul, n_sub, n_sm, n_pm, n_0m, n_cl, Nat.reduceEqDiff, ↓reduceIte, nle_T, nle_F, nlt_T, nlt_F, neq_F, neq_T, if_true, if_false, true_and, and_true, Nat.mul_zero, Nat.zero_add, Nat.add_zero, Nat.reduceAdd, Nat.reduceMul, Nat.reduceSub, li_0, li_1, li_2, li_3, li_4, li_5, li_6, li_7, li_8, li_9, li_10, li_11, li_12, li_13, li_14, li_15, li_16, li_20, li_24, li_28, li_31, li_35, li_38, li_40, li_41, li_45, li_48, li_60, li_62, li_63, li_97, li_100, li_104, li_105, li_120, li_124, li_127, li_180, li_239, li_240, li_255, li_256, li_300, li_400, li_960, li_1000000]
    · have hA1 := S.1.1
      have hAN := S.2.1.1.1.1
      have e2' : gR2 t0 (nI d) (nI 3) = some (w, t1) := e2
      obtain ⟨v', s', w', t', i1, i2, i3⟩ := loop_or (fF := fF) (fP := fP) (gF := gF2) (gP := gP2) (gR := gR2) hB h0 (N + 1) NF NF 0 A1 P1 nums1 v s1 w t1 (by omega) (by show N + 1 < 1000; omega) (by show N + 1 < 1000; omega) (by omega) S
      refine ⟨v', s', w', t', ?_, ?_, i3⟩
      · unfold bX5_form
        rw [sk, e1, ob_s]
        exact i1
      · unfold bX8_row
        rw [if_pos (by decide), show (3 : Int32) = nI 3 from rfl, e2', ob_s]
        exact i2
  obtain ⟨v, s2, w, t2, c1, c2, hE | ⟨A2, P2, nums2, S0⟩⟩ := rowv
  · have hE' := hE.pre (h.gr x4 x6) (x5.wk (by decide))
    have tk := hE.tk (nI 62)
    have w0 := hE.1
    subst w0
    refine SIM.e hE' (v := v) ?_ ?_
    · rw [c1]
      simp (implicitDefEqProofs := false) (disch := omega) only [mX5_form_45, tk, ↓bnd_e, ↓ob_s, ob_s, su_1, su_2, sl_1, sl_2, ↓ck_n, ck_n, ck_Z0, ck_Z1, c_lt, c_le, c_eq, ng_1, m_ne, m_en, m_lt, m_le, m_gt, m_ge, n_add, n_mul, n_sub, n_sm, n_pm, n_0m, n_cl, Nat.reduceEqDiff, ↓reduceIte, nle_T, nle_F, nlt_T, nlt_F, neq_F, neq_T, if_true, if_false, true_and, and_true, Nat.mul_zero, Nat.zero_add, Nat.add_zero, Nat.reduceAdd, Nat.reduceMul, Nat.reduceSub, li_0, li_1, li_2, li_3, li_4, li_5, li_6, li_7, li_8, li_9, li_10, li_11, li_12, li_13, li_14, li_15, li_16, li_20, li_24, li_28, li_31, li_35, li_38, li_40, li_41, li_45, li_48, li_60, li_62, li_63, li_97, li_100, li_104, li_105, li_120, li_124, li_127, li_180, li_239, li_240, li_255, li_256, li_300, li_400, li_960, li_1000000]
    · rw [hm, c2, ob_s]
      dsimp only
      rw [if_pos (show mI = -1 from rfl)]
  · have S := SUC.lead h x4 x6 x5 x7 S0
    have hAN := S.2.1.1.1.1
    have hPA := S.2.1.2.2.2.2
    have wv : w = nI (P2 - 1) := S.1.2.2.2.1
    obtain ⟨b, A3, s3, t3, u1, u2, u3, u4, u5, u6, u7, u8⟩ := takes_rel S.2.1.1 S.2.1.2.1 (c := 62) (by omega)
    cases b
    · rw [zB_0] at u1 u2
      refine SIM.s (S.trail u4 u6 u5 u3 u7) ?_ ?_
      · rw [c1]
        simp (implicitDefEqProofs := false) (disch := omega) only [mX5_form_45, u1, ↓bnd_e, ↓ob_s, ob_s, su_1, su_2, sl_1, sl_2, ↓ck_n, ck_n, ck_Z0, ck_Z1, c_lt, c_le, c_eq, ng_1, m_ne, m_en, m_lt, m_le, m_gt, m_ge, n_add, n_mul, n_sub, n_sm, n_pm, n_0m, n_cl, Nat.reduceEqDiff, ↓reduceIte, nle_T, nle_F, nlt_T, nlt_F, neq_F, neq_T, if_true, if_false, true_and, and_true, Nat.mul_zero, Nat.zero_add, Nat.add_zero, Nat.reduceAdd, Nat.reduceMul, Nat.reduceSub, li_0, li_1, li_2, li_3, li_4, li_5, li_6, li_7, li_8, li_9, li_10, li_11, li_12, li_13, li_14, li_15, li_16, li_20, li_24, li_28, li_31, li_35, li_38, li_40, li_41, li_45, li_48, li_60, li_62, li_63, li_97, li_100, li_104, li_105, li_120, li_124, li_127, li_180, li_239, li_240, li_255, li_256, li_300, li_400, li_960, li_1000000]
      · rw [hm, c2, wv]
        simp (implicitDefEqProofs := false) (disch := omega) only [u2, ↓bnd_e, ↓ob_s, ob_s, su_1, su_2, sl_1, sl_2, ↓ck_n, ck_n, ck_Z0, ck_Z1, c_lt, c_le, c_eq, ng_1, m_ne, m_en, m_lt, m_le, m_gt, m_ge, n_add, n_mul, n_sub, n_sm, n_pm, n_0m, n_cl, Nat.reduceEqDiff, ↓reduceIte, nle_T, nle_F, nlt_T, nlt_F, neq_F, neq_T, if_true, if_false, true_and, and_true, Nat.mul_zero, Nat.zero_add, Nat.add_zero, Nat.reduceAdd, Nat.reduceMul, Nat.reduceSub, li_0, li_1, li_2, li_3, li_4, li_5, li_6, li_7, li_8, li_9, li_10, li_11, li_12, li_13, li_14, li_15, li_16, li_20, li_24, li_28, li_31, li_35, li_38, li_40, li_41, li_45, li_48, li_60, li_62, li_63, li_97, li_100, li_104, li_105, li_120, li_124, li_127, li_180, li_239, li_240, li_255, li_256, li_300, li_400, li_960, li_1000000]
    · rw [zB_1] at u1 u2
      have hlt := u8 rfl
      have hpre := S.2.1.mv u4 u5 u3 (by omega)
      obtain ⟨v4, s4, w4, t4, e1, e2, hE | ⟨A4, P4, nums4, hS⟩⟩ := hF N A3 P2 s3 t3 nums2 hpre
      · obtain ⟨r, sr, f1, f2⟩ := hE.num (nI 5) v v4
        have hE' := f2.pre (S.2.2.1.tr (S.2.1.gr u4 u6)) (S.2.2.2.1.tr (u5.wk (by decide)))
        have w0 := hE.1
        subst w0
        refine SIM.e hE' (v := r) ?_ ?_
        · rw [c1]
          simp (implicitDefEqProofs := false) (disch := omega) only [mX5_form_45, u1, e1, f1, ↓bnd_e, ↓ob_s, ob_s, su_1, su_2, sl_1, sl_2, ↓ck_n, ck_n, ck_Z0, ck_Z1, c_lt, c_le, c_eq, ng_1, m_ne, m_en, m_lt, m_le, m_gt, m_ge, n_add, n_mul, n_sub, n_sm, n_pm, n_0m, n_cl, Nat.reduceEqDiff, ↓reduceIte, nle_T, nle_F, nlt_T, nlt_F, neq_F, neq_T, if_true, if_false, true_and, and_true, Nat.mul_zero, Nat.zero_add, Nat.add_zero, Nat.reduceAdd, Nat.reduceMul, Nat.reduceSub, li_0, li_1, li_2, li_3, li_4, li_5, li_6, li_7, li_8, li_9, li_10, li_11, li_12, li_13, li_14, li_15, li_16, li_20, li_24, li_28, li_31, li_35, li_38, li_40, li_41, li_45, li_48, li_60, li_62, li_63, li_97, li_100, li_104, li_105, li_120, li_124, li_127, li_180, li_239, li_240, li_255, li_256, li_300, li_400, li_960, li_1000000]
        · rw [hm, c2, wv]
          simp (implicitDefEqProofs := false) (disch := omega) only [u2, e2, ↓bnd_e, ↓ob_s, ob_s, su_1, su_2, sl_1, sl_2, ↓ck_n, ck_n, ck_Z0, ck_Z1, c_lt, c_le, c_eq, ng_1, m_ne, m_en, m_lt, m_le, m_gt, m_ge, n_add, n_mul, n_sub, n_sm, n_pm, n_0m, n_cl, Nat.reduceEqDiff, ↓reduceIte, nle_T, nle_F, nlt_T, nlt_F, neq_F, neq_T, if_true, if_false, true_and, and_true, Nat.mul_zero, Nat.zero_add, Nat.add_zero, Nat.reduceAdd, Nat.reduceMul, Nat.reduceSub, li_0, li_1, li_2, li_3, li_4, li_5, li_6, li_7, li_8, li_9, li_10, li_11, li_12, li_13, li_14, li_15, li_16, li_20, li_24, li_28, li_31, li_35, li_38, li_40, li_41, li_45, li_48, li_60, li_62, li_63, li_97, li_100, li_104, li_105, li_120, li_124, li_127, li_180, li_239, li_240, li_255, li_256, li_300, li_400, li_960, li_1000000]
      · obtain ⟨r, sr, tr, nums5, f1, f2, f3⟩ := SUC.bin (so := 5) (by omega) (by omega) S u4 u6 u5 hlt hS
        have wv4 : w4 = nI (P4 - 1) := hS.1.2.2.2.1
        have hP400 : P4 ≤ 400 := by have := hS.2.1.2.2.2.2; have := hS.2.1.1.1.1; omega
        refine SIM.s f3 ?_ ?_
        · rw [c1]
          simp (implicitDefEqProofs := false) (disch := omega) only [mX5_form_45, u1, e1, f1, ↓bnd_e, ↓ob_s, ob_s, su_1, su_2, sl_1, sl_2, ↓ck_n, ck_n, ck_Z0, ck_Z1, c_lt, c_le, c_eq, ng_1, m_ne, m_en, m_lt, m_le, m_gt, m_ge, n_add, n_mul, n_sub, n_sm, n_pm, n_0m, n_cl, Nat.reduceEqDiff, ↓reduceIte, nle_T, nle_F, nlt_T, nlt_F, neq_F, neq_T, if_true, if_false, true_and, and_true, Nat.mul_zero, Nat.zero_add, Nat.add_zero, Nat.reduceAdd, Nat.reduceMul, Nat.reduceSub, li_0, li_1, li_2, li_3, li_4, li_5, li_6, li_7, li_8, li_9, li_10, li_11, li_12, li_13, li_14, li_15, li_16, li_20, li_24, li_28, li_31, li_35, li_38, li_40, li_41, li_45, li_48, li_60, li_62, li_63, li_97, li_100, li_104, li_105, li_120, li_124, li_127, li_180, li_239, li_240, li_255, li_256, li_300, li_400, li_960, li_1000000]
        · rw [hm, c2]
          rw [wv] at f2 ⊢
          rw [wv4] at e2 f2
          simp (implicitDefEqProofs := false) (disch := omega) only [u2, e2, f2, ↓bnd_e, ↓ob_s, ob_s, su_1, su_2, sl_1, sl_2, ↓ck_n, ck_n, ck_Z0, ck_Z1, c_lt, c_le, c_eq, ng_1, m_ne, m_en, m_lt, m_le, m_gt, m_ge, n_add, n_mul, n_sub, n_sm, n_pm, n_0m, n_cl, Nat.reduceEqDiff, ↓reduceIte, nle_T, nle_F, nlt_T, nlt_F, neq_F, neq_T, if_true, if_false, true_and, and_true, Nat.mul_zero, Nat.zero_add, Nat.add_zero, Nat.reduceAdd, Nat.reduceMul, Nat.reduceSub, li_0, li_1, li_2, li_3, li_4, li_5, li_6, li_7, li_8, li_9, li_10, li_11, li_12, li_13, li_14, li_15, li_16, li_20, li_24, li_28, li_31, li_35, li_38, li_40, li_41, li_45, li_48, li_60, li_62, li_63, li_97, li_100, li_104, li_105, li_120, li_124, li_127, li_180, li_239, li_240, li_255, li_256, li_300, li_400, li_960, li_1000000]
/-- too deep, on both sides -/
def hErr (t : St) (_ : Int32) : Option (Int32 × St) := (mX8_here t).bind fun ⟨_, s⟩ => some (mI, s)
theorem deep_plain (fB fF fP : St → Int32 → Option (Int32 × St)) : SIMF 11 (bX5_plain fB fF fP) hErr := by
  intro N A P s t nums h
  obtain ⟨A0, s0, t0, x1, x2, x3, x4, x5, x6, x7, x8, x9⟩ := next_rel h.1
  have h0 := h.mv x4 x5 x3 x7
  obtain ⟨sE, f1, f2⟩ := ERR.here h (h.gr x4 x6) (x5.wk (by decide)) x3 h0.2.1
  refine SIM.e f2 (v := mI) ?_ ?_
  · unfold bX5_plain
    rw [x1, ob_s]
    dsimp only
    rw [if_pos (by decide)]
    unfold mX5_plain_18
    rw [f1, ob_s]
  · unfold hErr
    rw [x2, ob_s]
theorem hErr_e {N A P : Nat} {s t : St} {nums : Nat → Int32} {cr : Option (Int32 × St)} {x : Int32} (h : SIM N A P s t nums cr (hErr t x)) : ∃ v s' t', cr = some (v, s') ∧ hErr t x = some (mI, t') ∧ ERR s t s' mI t' := by
  obtain ⟨v, s', w, t', e1, e2, hE | ⟨A', P', nums', S⟩⟩ := h
  · have := hE.1
    subst this
    exact ⟨v, s', t', e1, e2, hE⟩
  · have wv : w = nI (P' - 1) := S.1.2.2.2.1
    have hP400 : P' ≤ 400 := by have := S.2.1.2.2.2.2; have := S.2.1.1.1.1; have := S.2.1.1.1.2.1; omega
    have : w = mI := by
      unfold hErr at e2
      obtain ⟨z, _, e3⟩ := ok_bind e2
      exact (congrArg Prod.fst (Option.some.inj e3)).symm
    rw [wv, m_ne (by omega)] at this
    exact this.elim
theorem deep_both {fB fF fP : St → Int32 → Option (Int32 × St)} (hX : SIMF 11 fP hErr) : SIMF 11 (bX5_both fB fF fP) hErr := by
  intro N A P s t nums h
  obtain ⟨v, s', t', e1, e2, hE⟩ := hErr_e (hX N A P s t nums h)
  have tk := hE.tk (nI 38)
  refine SIM.e hE (v := v) ?_ e2
  obtain ⟨nf, hnf⟩ := NF_5
  unfold bX5_both
  rw [e1, ob_s]
  dsimp only
  rw [hnf]
  simp (implicitDefEqProofs := false) (disch := omega) only [fx_s, bX5_both_8, tk, ↓bnd_e, ↓ob_s, ob_s, su_1, su_2, sl_1, sl_2, ↓ck_n, ck_n, ck_Z0, ck_Z1, c_lt, c_le, c_eq, ng_1, m_ne, m_en, m_lt, m_le, m_gt, m_ge, n_add, n_mul, n_sub, n_sm, n_pm, n_0m, n_cl, Nat.reduceEqDiff, ↓reduceIte, nle_T, nle_F, nlt_T, nlt_F, neq_F, neq_T, if_true, if_false, true_and, and_true, Nat.mul_zero, Nat.zero_add, Nat.add_zero, Nat.reduceAdd, Nat.reduceMul, Nat.reduceSub, li_0, li_1, li_2, li_3, li_4, li_5, li_6, li_7, li_8, li_9, li_10, li_11, li_12, li_13, li_14, li_15, li_16, li_20, li_24, li_28, li_31, li_35, li_38, li_40, li_41, li_45, li_48, li_60, li_62, li_63, li_97, li_100, li_104, li_105, li_120, li_124, li_127, li_180, li_239, li_240, li_255, li_256, li_300, li_400, li_960, li_1000000]
theorem deep_form {fB fF fP : St → Int32 → Option (Int32 × St)} (hX : SIMF 11 fB hErr) : SIMF 11 (bX5_form fB fF fP) hErr := by
  intro N A P s t nums h
  obtain ⟨v, s', t', e1, e2, hE⟩ := hErr_e (hX N A P s t nums h)
  have tk := hE.tk (nI 124)
  have tk2 := hE.tk (nI 62)
  refine SIM.e hE (v := v) ?_ e2
  obtain ⟨nf, hnf⟩ := NF_5
  unfold bX5_form
  rw [e1, ob_s]
  dsimp only
  rw [hnf]
  simp (implicitDefEqProofs := false) (disch := omega) only [fx_s, bX5_form_8, mX5_form_45, tk, tk2, ↓bnd_e, ↓ob_s, ob_s, su_1, su_2, sl_1, sl_2, ↓ck_n, ck_n, ck_Z0, ck_Z1, c_lt, c_le, c_eq, ng_1, m_ne, m_en, m_lt, m_le, m_gt, m_ge, n_add, n_mul, n_sub, n_sm, n_pm, n_0m, n_cl, Nat.reduceEqDiff, ↓reduceIte, nle_T, nle_F, nlt_T, nlt_F, neq_F, neq_T, if_true, if_false, true_and, and_true, Nat.mul_zero, Nat.zero_add, Nat.add_zero, Nat.reduceAdd, Nat.reduceMul, Nat.reduceSub, li_0, li_1, li_2, li_3, li_4, li_5, li_6, li_7, li_8, li_9, li_10, li_11, li_12, li_13, li_14, li_15, li_16, li_20, li_24, li_28, li_31, li_35, li_38, li_40, li_41, li_45, li_48, li_60, li_62, li_63, li_97, li_100, li_104, li_105, li_120, li_124, li_127, li_180, li_239, li_240, li_255, li_256, li_300, li_400, li_960, li_1000000]
theorem SIMF.c {d : Nat} {cf mf mf' : St → Int32 → Option (Int32 × St)} (h : SIMF d cf mf) (he : ∀ t, mf' t (nI d) = mf t (nI d)) : SIMF d cf mf' := fun N A P s t nums hp => by
  rw [he t]; exact h N A P s t nums hp
theorem skip_plain (fB fF fP : St → Int32 → Option (Int32 × St)) {s s' : St} {v : Int32} (h1 : mX5_next s = some (v, s')) (h2 : mX5_next s' = some (v, s')) (x : Int32) : bX5_plain fB fF fP s x = bX5_plain fB fF fP s' x := by
  unfold bX5_plain
  rw [h1, h2]
theorem skip_both {n : Nat} {s s' : St} {v : Int32} (h1 : mX5_next s = some (v, s')) (h2 : mX5_next s' = some (v, s')) (x : Int32) : (gX5_both (n + 2)).1 s x = (gX5_both (n + 2)).1 s' x := by
  have u : ∀ s, (gX5_both (n + 2)).1 s x = bX5_both (gX5_both (n + 1)).1 (gX5_both (n + 1)).2.1 (bX5_plain (gX5_both n).1 (gX5_both n).2.1 (gX5_both n).2.2) s x := fun s => rfl
  rw [u s, u s']
  unfold bX5_both
  rw [skip_plain _ _ _ h1 h2 x]
/-- the two readers, at every depth -/
theorem sim_all : ∀ e d, d + e = 11 → (∀ n m, 3 * e + 3 ≤ n → 4 * e + 1 ≤ m → SIMF d (gX5_both n).2.1 (gX8_form m).1) ∧ (∀ n m, 3 * e + 1 ≤ n → 1 ≤ m → 4 * e ≤ m + 2 → SIMF d (gX5_both n).2.2 (gX8_form m).2.1) := by
  intro e
  induction e with
  | zero =>
    intro d hd
    have : d = 11 := by omega
    subst this
    refine ⟨fun n m hn hm => ?_, fun n m hn hm _ => ?_⟩
    · obtain ⟨n, rfl⟩ : ∃ k, n = k + 3 := ⟨n - 3, by omega⟩
      obtain ⟨m, rfl⟩ : ∃ k, m = k + 1 := ⟨m - 1, by omega⟩
      have p := deep_plain (gX5_both n).1 (gX5_both n).2.1 (gX5_both n).2.2
      have b : SIMF 11 (bX5_both (gX5_both (n + 1)).1 (gX5_both (n + 1)).2.1 (gX5_both (n + 1)).2.2) hErr := deep_both p
      have f : SIMF 11 (bX5_form (gX5_both (n + 2)).1 (gX5_both (n + 2)).2.1 (gX5_both (n + 2)).2.2) hErr := deep_form b
      refine SIMF.c f (fun t => ?_)
      show bX8_form (gX8_form m).1 (gX8_form m).2.1 (gX8_form m).2.2 t (nI 11) = hErr t (nI 11)
      unfold bX8_form hErr
      congr 1
    · obtain ⟨n, rfl⟩ : ∃ k, n = k + 1 := ⟨n - 1, by omega⟩
      obtain ⟨m, rfl⟩ : ∃ k, m = k + 1 := ⟨m - 1, by omega⟩
      have p : SIMF 11 (bX5_plain (gX5_both n).1 (gX5_both n).2.1 (gX5_both n).2.2) hErr := deep_plain _ _ _
      refine SIMF.c p (fun t => ?_)
      show bX8_plain (gX8_form m).1 (gX8_form m).2.1 (gX8_form m).2.2 t (nI 11) = hErr t (nI 11)
      unfold bX8_plain hErr
      congr 1
  | succ e ih =>
    intro d hd
    obtain ⟨iF, iP⟩ := ih (d + 1) (by omega)
    have hPl : ∀ n m, 3 * (e + 1) + 1 ≤ n → 1 ≤ m → 4 * (e + 1) ≤ m + 2 → SIMF d (gX5_both n).2.2 (gX8_form m).2.1 := fun n m hn hm hm2 => by
      obtain ⟨n, rfl⟩ : ∃ k, n = k + 1 := ⟨n - 1, by omega⟩
      obtain ⟨m, rfl⟩ : ∃ k, m = k + 1 := ⟨m - 1, by omega⟩
      exact sim_plain (fB := (gX5_both n).1) (gR := (gX8_form m).2.2) (by omega) (iF n m (by omega) (by omega)) (iP n m (by omega) (by omega) (by omega))
    refine ⟨fun n m hn hm => ?_, hPl⟩
    obtain ⟨n, rfl⟩ : ∃ k, n = k + 3 := ⟨n - 3, by omega⟩
    obtain ⟨m, rfl⟩ : ∃ k, m = k + 4 := ⟨m - 4, by omega⟩
    have hb : SIMF d (gX5_both (n + 2)).1 (fun t x => (gX8_form (m + 2)).2.2 t x (nI 3)) :=
      sim_both (fB := (gX5_both (n + 1)).1) (fF := (gX5_both (n + 1)).2.1) (gF := (gX8_form (m + 1)).1) (gR := (gX8_form (m + 1)).2.2) (hPl (n + 1) (m + 1) (by omega) (by omega) (by omega))
    exact sim_form (fP := (gX5_both (n + 2)).2.2) (gP1 := (gX8_form (m + 3)).2.1) (gR1 := (gX8_form (m + 3)).2.2) (gF2 := (gX8_form (m + 2)).1) (gP2 := (gX8_form (m + 2)).2.1) (gR2 := (gX8_form (m + 2)).2.2) (by omega) hb (fun t x => rfl) (iF (n + 2) (m + 3) (by omega) (by omega)) (fun s s' v h1 h2 => skip_both h1 h2 (nI d))
