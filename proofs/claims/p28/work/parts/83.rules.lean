theorem cT_no {σ : St} {x : Option (Int32 × St)} {w : Nat} (h : x = some (nI w, σ)) (hw : w = 2 ∨ w = 3) (hc : x = some (nI 0, σ)) : False := by
  rw [h] at hc
  have e : nI w = nI 0 := congrArg Prod.fst (Option.some.inj hc)
  rcases hw with rfl | rfl <;> exact absurd e (by decide)
theorem rs_0 {σ τ : St} {ja x f sf : Nat} {l r b c : Int32} (A : LN σ τ ja x) (Ff : FQ σ τ f sf l r) (hc : cT σ (nI 0) (nI f) (nI ja) b c = some (nI 0, σ)) : x = f := by
  obtain ⟨a1, a2, a3, a4⟩ := A
  obtain ⟨f1, f2, f3, f4, f5, f6, f7, f8, f9⟩ := Ff
  by_cases e : x = f
  · exact e
  · exact (cT_no (w := 3) (by simp (implicitDefEqProofs := false) (disch := omega) only [cT, mX4_hasForm, mX4_firstFits, mX4_secondFits, mX4_thirdFits, mX4_refusal_128, mX4_refusal_129, a4, f4, ↓bnd_e, ↓ob_s, ob_s, su_1, su_2, sl_1, sl_2, ↓ck_n, ck_n, ck_Z0, ck_Z1, c_lt, c_le, c_eq, ng_1, m_ne, m_en, m_lt, m_le, m_gt, m_ge, n_add, n_mul, n_sub, n_sm, n_pm, n_0m, n_cl, Nat.reduceEqDiff, ↓reduceIte, nle_T, nle_F, nlt_T, nlt_F, neq_F, neq_T, if_true, if_false, true_and, and_true, Nat.mul_zero, Nat.zero_add, Nat.add_zero, Nat.reduceAdd, Nat.reduceMul, Nat.reduceSub, li_0, li_1, li_2, li_3, li_4, li_5, li_6, li_7, li_8, li_9, li_10, li_11, li_12, li_13, li_14, li_15, li_16, li_20, li_24, li_28, li_31, li_35, li_38, li_40, li_41, li_45, li_48, li_60, li_62, li_63, li_97, li_100, li_104, li_105, li_120, li_124, li_127, li_180, li_239, li_240, li_255, li_256, li_300, li_400, li_960, li_1000000]) (Or.inr rfl) hc).elim
theorem rs_1 {σ τ : St} {ja jb x y f sf : Nat} {l r c : Int32} (A : LN σ τ ja x) (Bb : LN σ τ jb y) (Ff : FQ σ τ f sf l r) (hc : cT σ (nI 1) (nI f) (nI ja) (nI jb) c = some (nI 0, σ)) : sf = 3 ∧ l = nI x ∧ r = nI y := by
  obtain ⟨a1, a2, a3, a4⟩ := A
  obtain ⟨b1, b2, b3, b4⟩ := Bb
  obtain ⟨f1, f2, f3, f4, f5, f6, f7, f8, f9⟩ := Ff
  by_cases hs : sf = 3
  · subst hs
    rcases f9 with ⟨h, _⟩ | ⟨h, _⟩ | ⟨_, p, q, hp, hq, rfl, rfl⟩
    · omega
    · omega
    · have f7' := f7 (by omega)
      by_cases e1 : p = x
      · by_cases e2 : q = y
        · exact ⟨rfl, by rw [e1], by rw [e2]⟩
        · exact (cT_no (w := 3) (by simp (implicitDefEqProofs := false) (disch := omega) only [cT, mX4_hasForm, mX4_firstFits, mX4_secondFits, mX4_thirdFits, mX4_refusal_128, mX4_refusal_129, a4, b4, f4, f5, f6, ↓bnd_e, ↓ob_s, ob_s, su_1, su_2, sl_1, sl_2, ↓ck_n, ck_n, ck_Z0, ck_Z1, c_lt, c_le, c_eq, ng_1, m_ne, m_en, m_lt, m_le, m_gt, m_ge, n_add, n_mul, n_sub, n_sm, n_pm, n_0m, n_cl, Nat.reduceEqDiff, ↓reduceIte, nle_T, nle_F, nlt_T, nlt_F, neq_F, neq_T, if_true, if_false, true_and, and_true, Nat.mul_zero, Nat.zero_add, Nat.add_zero, Nat.reduceAdd, Nat.reduceMul, Nat.reduceSub, li_0, li_1, li_2, li_3, li_4, li_5, li_6, li_7, li_8, li_9, li_10, li_11, li_12, li_13, li_14, li_15, li_16, li_20, li_24, li_28, li_31, li_35, li_38, li_40, li_41, li_45, li_48, li_60, li_62, li_63, li_97, li_100, li_104, li_105, li_120, li_124, li_127, li_180, li_239, li_240, li_255, li_256, li_300, li_400, li_960, li_1000000]) (Or.inr rfl) hc).elim
      · exact (cT_no (w := 3) (by simp (implicitDefEqProofs := false) (disch := omega) only [cT, mX4_hasForm, mX4_firstFits, mX4_secondFits, mX4_thirdFits, mX4_refusal_128, mX4_refusal_129, a4, b4, f4, f5, f6, ↓bnd_e, ↓ob_s, ob_s, su_1, su_2, sl_1, sl_2, ↓ck_n, ck_n, ck_Z0, ck_Z1, c_lt, c_le, c_eq, ng_1, m_ne, m_en, m_lt, m_le, m_gt, m_ge, n_add, n_mul, n_sub, n_sm, n_pm, n_0m, n_cl, Nat.reduceEqDiff, ↓reduceIte, nle_T, nle_F, nlt_T, nlt_F, neq_F, neq_T, if_true, if_false, true_and, and_true, Nat.mul_zero, Nat.zero_add, Nat.add_zero, Nat.reduceAdd, Nat.reduceMul, Nat.reduceSub, li_0, li_1, li_2, li_3, li_4, li_5, li_6, li_7, li_8, li_9, li_10, li_11, li_12, li_13, li_14, li_15, li_16, li_20, li_24, li_28, li_31, li_35, li_38, li_40, li_41, li_45, li_48, li_60, li_62, li_63, li_97, li_100, li_104, li_105, li_120, li_124, li_127, li_180, li_239, li_240, li_255, li_256, li_300, li_400, li_960, li_1000000]) (Or.inr rfl) hc).elim
  · exact (cT_no (w := 3) (by simp (implicitDefEqProofs := false) (disch := omega) only [cT, mX4_hasForm, mX4_firstFits, mX4_secondFits, mX4_thirdFits, mX4_refusal_128, mX4_refusal_129, a4, b4, f4, ↓bnd_e, ↓ob_s, ob_s, su_1, su_2, sl_1, sl_2, ↓ck_n, ck_n, ck_Z0, ck_Z1, c_lt, c_le, c_eq, ng_1, m_ne, m_en, m_lt, m_le, m_gt, m_ge, n_add, n_mul, n_sub, n_sm, n_pm, n_0m, n_cl, Nat.reduceEqDiff, ↓reduceIte, nle_T, nle_F, nlt_T, nlt_F, neq_F, neq_T, if_true, if_false, true_and, and_true, Nat.mul_zero, Nat.zero_add, Nat.add_zero, Nat.reduceAdd, Nat.reduceMul, Nat.reduceSub, li_0, li_1, li_2, li_3, li_4, li_5, li_6, li_7, li_8, li_9, li_10, li_11, li_12, li_13, li_14, li_15, li_16, li_20, li_24, li_28, li_31, li_35, li_38, li_40, li_41, li_45, li_48, li_60, li_62, li_63, li_97, li_100, li_104, li_105, li_120, li_124, li_127, li_180, li_239, li_240, li_255, li_256, li_300, li_400, li_960, li_1000000]) (Or.inr rfl) hc).elim
theorem rs_2 {σ τ : St} {ja x f sf sx : Nat} {l r l' r' b c : Int32} (A : LN σ τ ja x) (X : FQ σ τ x sx l' r') (Ff : FQ σ τ f sf l r) (hc : cT σ (nI 2) (nI f) (nI ja) b c = some (nI 0, σ)) : sx = 3 ∧ l' = nI f := by
  obtain ⟨a1, a2, a3, a4⟩ := A
  obtain ⟨x1, x2, x3, x4, x5, x6, x7, x8, x9⟩ := X
  obtain ⟨f1, f2, f3, f4, f5, f6, f7, f8, f9⟩ := Ff
  by_cases hs : sx = 3
  · subst hs
    rcases x9 with ⟨h, _⟩ | ⟨h, _⟩ | ⟨_, p, q, hp, hq, rfl, rfl⟩
    · omega
    · omega
    · have x7' := x7 (by omega)
      by_cases e1 : p = f
      · exact ⟨rfl, by rw [e1]⟩
      · exact (cT_no (w := 3) (by simp (implicitDefEqProofs := false) (disch := omega) only [cT, mX4_hasForm, mX4_firstFits, mX4_secondFits, mX4_thirdFits, mX4_refusal_128, mX4_refusal_129, a4, x4, x5, x6, f4, ↓bnd_e, ↓ob_s, ob_s, su_1, su_2, sl_1, sl_2, ↓ck_n, ck_n, ck_Z0, ck_Z1, c_lt, c_le, c_eq, ng_1, m_ne, m_en, m_lt, m_le, m_gt, m_ge, n_add, n_mul, n_sub, n_sm, n_pm, n_0m, n_cl, Nat.reduceEqDiff, ↓reduceIte, nle_T, nle_F, nlt_T, nlt_F, neq_F, neq_T, if_true, if_false, true_and, and_true, Nat.mul_zero, Nat.zero_add, Nat.add_zero, Nat.reduceAdd, Nat.reduceMul, Nat.reduceSub, li_0, li_1, li_2, li_3, li_4, li_5, li_6, li_7, li_8, li_9, li_10, li_11, li_12, li_13, li_14, li_15, li_16, li_20, li_24, li_28, li_31, li_35, li_38, li_40, li_41, li_45, li_48, li_60, li_62, li_63, li_97, li_100, li_104, li_105, li_120, li_124, li_127, li_180, li_239, li_240, li_255, li_256, li_300, li_400, li_960, li_1000000]) (Or.inr rfl) hc).elim
  · exact (cT_no (w := 2) (by simp (implicitDefEqProofs := false) (disch := omega) only [cT, mX4_hasForm, mX4_firstFits, mX4_secondFits, mX4_thirdFits, mX4_refusal_128, mX4_refusal_129, a4, x4, ↓bnd_e, ↓ob_s, ob_s, su_1, su_2, sl_1, sl_2, ↓ck_n, ck_n, ck_Z0, ck_Z1, c_lt, c_le, c_eq, ng_1, m_ne, m_en, m_lt, m_le, m_gt, m_ge, n_add, n_mul, n_sub, n_sm, n_pm, n_0m, n_cl, Nat.reduceEqDiff, ↓reduceIte, nle_T, nle_F, nlt_T, nlt_F, neq_F, neq_T, if_true, if_false, true_and, and_true, Nat.mul_zero, Nat.zero_add, Nat.add_zero, Nat.reduceAdd, Nat.reduceMul, Nat.reduceSub, li_0, li_1, li_2, li_3, li_4, li_5, li_6, li_7, li_8, li_9, li_10, li_11, li_12, li_13, li_14, li_15, li_16, li_20, li_24, li_28, li_31, li_35, li_38, li_40, li_41, li_45, li_48, li_60, li_62, li_63, li_97, li_100, li_104, li_105, li_120, li_124, li_127, li_180, li_239, li_240, li_255, li_256, li_300, li_400, li_960, li_1000000]) (Or.inl rfl) hc).elim
theorem rs_3 {σ τ : St} {ja x f sf sx : Nat} {l r l' r' b c : Int32} (A : LN σ τ ja x) (X : FQ σ τ x sx l' r') (Ff : FQ σ τ f sf l r) (hc : cT σ (nI 3) (nI f) (nI ja) b c = some (nI 0, σ)) : sx = 3 ∧ r' = nI f := by
  obtain ⟨a1, a2, a3, a4⟩ := A
  obtain ⟨x1, x2, x3, x4, x5, x6, x7, x8, x9⟩ := X
  obtain ⟨f1, f2, f3, f4, f5, f6, f7, f8, f9⟩ := Ff
  by_cases hs : sx = 3
  · subst hs
    rcases x9 with ⟨h, _⟩ | ⟨h, _⟩ | ⟨_, p, q, hp, hq, rfl, rfl⟩
    · omega
    · omega
    · have x7' := x7 (by omega)
      by_cases e1 : q = f
      · exact ⟨rfl, by rw [e1]⟩
      · exact (cT_no (w := 3) (by simp (implicitDefEqProofs := false) (disch := omega) only [cT, mX4_hasForm, mX4_firstFits, mX4_secondFits, mX4_thirdFits, mX4_refusal_128, mX4_refusal_129, a4, x4, x5, x6, f4, ↓bnd_e, ↓ob_s, ob_s, su_1, su_2, sl_1, sl_2, ↓ck_n, ck_n, ck_Z0, ck_Z1, c_lt, c_le, c_eq, ng_1, m_ne, m_en, m_lt, m_le, m_gt, m_ge, n_add, n_mul, n_sub, n_sm, n_pm, n_0m, n_cl, Nat.reduceEqDiff, ↓reduceIte, nle_T, nle_F, nlt_T, nlt_F, neq_F, neq_T, if_true, if_false, true_and, and_true, Nat.mul_zero, Nat.zero_add, Nat.add_zero, Nat.reduceAdd, Nat.reduceMul, Nat.reduceSub, li_0, li_1, li_2, li_3, li_4, li_5, li_6, li_7, li_8, li_9, li_10, li_11, li_12, li_13, li_14, li_15, li_16, li_20, li_24, li_28, li_31, li_35, li_38, li_40, li_41, li_45, li_48, li_60, li_62, li_63, li_97, li_100, li_104, li_105, li_120, li_124, li_127, li_180, li_239, li_240, li_255, li_256, li_300, li_400, li_960, li_1000000]) (Or.inr rfl) hc).elim
  · exact (cT_no (w := 2) (by simp (implicitDefEqProofs := false) (disch := omega) only [cT, mX4_hasForm, mX4_firstFits, mX4_secondFits, mX4_thirdFits, mX4_refusal_128, mX4_refusal_129, a4, x4, ↓bnd_e, ↓ob_s, ob_s, su_1, su_2, sl_1, sl_2, ↓ck_n, ck_n, ck_Z0, ck_Z1, c_lt, c_le, c_eq, ng_1, m_ne, m_en, m_lt, m_le, m_gt, m_ge, n_add, n_mul, n_sub, n_sm, n_pm, n_0m, n_cl, Nat.reduceEqDiff, ↓reduceIte, nle_T, nle_F, nlt_T, nlt_F, neq_F, neq_T, if_true, if_false, true_and, and_true, Nat.mul_zero, Nat.zero_add, Nat.add_zero, Nat.reduceAdd, Nat.reduceMul, Nat.reduceSub, li_0, li_1, li_2, li_3, li_4, li_5, li_6, li_7, li_8, li_9, li_10, li_11, li_12, li_13, li_14, li_15, li_16, li_20, li_24, li_28, li_31, li_35, li_38, li_40, li_41, li_45, li_48, li_60, li_62, li_63, li_97, li_100, li_104, li_105, li_120, li_124, li_127, li_180, li_239, li_240, li_255, li_256, li_300, li_400, li_960, li_1000000]) (Or.inl rfl) hc).elim
theorem rs_4 {σ τ : St} {ja x f sf : Nat} {l r b c : Int32} (A : LN σ τ ja x) (Ff : FQ σ τ f sf l r) (hc : cT σ (nI 4) (nI f) (nI ja) b c = some (nI 0, σ)) : sf = 4 ∧ l = nI x := by
  obtain ⟨a1, a2, a3, a4⟩ := A
  obtain ⟨f1, f2, f3, f4, f5, f6, f7, f8, f9⟩ := Ff
  by_cases hs : sf = 4
  · subst hs
    rcases f9 with ⟨h, _⟩ | ⟨h, _⟩ | ⟨_, p, q, hp, hq, rfl, rfl⟩
    · omega
    · omega
    · have f7' := f7 (by omega)
      by_cases e1 : p = x
      · exact ⟨rfl, by rw [e1]⟩
      · exact (cT_no (w := 3) (by simp (implicitDefEqProofs := false) (disch := omega) only [cT, mX4_hasForm, mX4_firstFits, mX4_secondFits, mX4_thirdFits, mX4_refusal_128, mX4_refusal_129, a4, f4, f5, f6, ↓bnd_e, ↓ob_s, ob_s, su_1, su_2, sl_1, sl_2, ↓ck_n, ck_n, ck_Z0, ck_Z1, c_lt, c_le, c_eq, ng_1, m_ne, m_en, m_lt, m_le, m_gt, m_ge, n_add, n_mul, n_sub, n_sm, n_pm, n_0m, n_cl, Nat.reduceEqDiff, ↓reduceIte, nle_T, nle_F, nlt_T, nlt_F, neq_F, neq_T, if_true, if_false, true_and, and_true, Nat.mul_zero, Nat.zero_add, Nat.add_zero, Nat.reduceAdd, Nat.reduceMul, Nat.reduceSub, li_0, li_1, li_2, li_3, li_4, li_5, li_6, li_7, li_8, li_9, li_10, li_11, li_12, li_13, li_14, li_15, li_16, li_20, li_24, li_28, li_31, li_35, li_38, li_40, li_41, li_45, li_48, li_60, li_62, li_63, li_97, li_100, li_104, li_105, li_120, li_124, li_127, li_180, li_239, li_240, li_255, li_256, li_300, li_400, li_960, li_1000000]) (Or.inr rfl) hc).elim
  · exact (cT_no (w := 3) (by simp (implicitDefEqProofs := false) (disch := omega) only [cT, mX4_hasForm, mX4_firstFits, mX4_secondFits, mX4_thirdFits, mX4_refusal_128, mX4_refusal_129, a4, f4, ↓bnd_e, ↓ob_s, ob_s, su_1, su_2, sl_1, sl_2, ↓ck_n, ck_n, ck_Z0, ck_Z1, c_lt, c_le, c_eq, ng_1, m_ne, m_en, m_lt, m_le, m_gt, m_ge, n_add, n_mul, n_sub, n_sm, n_pm, n_0m, n_cl, Nat.reduceEqDiff, ↓reduceIte, nle_T, nle_F, nlt_T, nlt_F, neq_F, neq_T, if_true, if_false, true_and, and_true, Nat.mul_zero, Nat.zero_add, Nat.add_zero, Nat.reduceAdd, Nat.reduceMul, Nat.reduceSub, li_0, li_1, li_2, li_3, li_4, li_5, li_6, li_7, li_8, li_9, li_10, li_11, li_12, li_13, li_14, li_15, li_16, li_20, li_24, li_28, li_31, li_35, li_38, li_40, li_41, li_45, li_48, li_60, li_62, li_63, li_97, li_100, li_104, li_105, li_120, li_124, li_127, li_180, li_239, li_240, li_255, li_256, li_300, li_400, li_960, li_1000000]) (Or.inr rfl) hc).elim
theorem rs_5 {σ τ : St} {ja x f sf : Nat} {l r b c : Int32} (A : LN σ τ ja x) (Ff : FQ σ τ f sf l r) (hc : cT σ (nI 5) (nI f) (nI ja) b c = some (nI 0, σ)) : sf = 4 ∧ r = nI x := by
  obtain ⟨a1, a2, a3, a4⟩ := A
  obtain ⟨f1, f2, f3, f4, f5, f6, f7, f8, f9⟩ := Ff
  by_cases hs : sf = 4
  · subst hs
    rcases f9 with ⟨h, _⟩ | ⟨h, _⟩ | ⟨_, p, q, hp, hq, rfl, rfl⟩
    · omega
    · omega
    · have f7' := f7 (by omega)
      by_cases e1 : q = x
      · exact ⟨rfl, by rw [e1]⟩
      · exact (cT_no (w := 3) (by simp (implicitDefEqProofs := false) (disch := omega) only [cT, mX4_hasForm, mX4_firstFits, mX4_secondFits, mX4_thirdFits, mX4_refusal_128, mX4_refusal_129, a4, f4, f5, f6, ↓bnd_e, ↓ob_s, ob_s, su_1, su_2, sl_1, sl_2, ↓ck_n, ck_n, ck_Z0, ck_Z1, c_lt, c_le, c_eq, ng_1, m_ne, m_en, m_lt, m_le, m_gt, m_ge, n_add, n_mul, n_sub, n_sm, n_pm, n_0m, n_cl, Nat.reduceEqDiff, ↓reduceIte, nle_T, nle_F, nlt_T, nlt_F, neq_F, neq_T, if_true, if_false, true_and, and_true, Nat.mul_zero, Nat.zero_add, Nat.add_zero, Nat.reduceAdd, Nat.reduceMul, Nat.reduceSub, li_0, li_1, li_2, li_3, li_4, li_5, li_6, li_7, li_8, li_9, li_10, li_11, li_12, li_13, li_14, li_15, li_16, li_20, li_24, li_28, li_31, li_35, li_38, li_40, li_41, li_45, li_48, li_60, li_62, li_63, li_97, li_100, li_104, li_105, li_120, li_124, li_127, li_180, li_239, li_240, li_255, li_256, li_300, li_400, li_960, li_1000000]) (Or.inr rfl) hc).elim
  · exact (cT_no (w := 3) (by simp (implicitDefEqProofs := false) (disch := omega) only [cT, mX4_hasForm, mX4_firstFits, mX4_secondFits, mX4_thirdFits, mX4_refusal_128, mX4_refusal_129, a4, f4, ↓bnd_e, ↓ob_s, ob_s, su_1, su_2, sl_1, sl_2, ↓ck_n, ck_n, ck_Z0, ck_Z1, c_lt, c_le, c_eq, ng_1, m_ne, m_en, m_lt, m_le, m_gt, m_ge, n_add, n_mul, n_sub, n_sm, n_pm, n_0m, n_cl, Nat.reduceEqDiff, ↓reduceIte, nle_T, nle_F, nlt_T, nlt_F, neq_F, neq_T, if_true, if_false, true_and, and_true, Nat.mul_zero, Nat.zero_add, Nat.add_zero, Nat.reduceAdd, Nat.reduceMul, Nat.reduceSub, li_0, li_1, li_2, li_3, li_4, li_5, li_6, li_7, li_8, li_9, li_10, li_11, li_12, li_13, li_14, li_15, li_16, li_20, li_24, li_28, li_31, li_35, li_38, li_40, li_41, li_45, li_48, li_60, li_62, li_63, li_97, li_100, li_104, li_105, li_120, li_124, li_127, li_180, li_239, li_240, li_255, li_256, li_300, li_400, li_960, li_1000000]) (Or.inr rfl) hc).elim
theorem rs_6 {σ τ : St} {ja x f sf sx bb jb ib xb yb cc jc ic xc yc : Nat} {l r l' r' : Int32} (A : LN σ τ ja x) (X : FQ σ τ x sx l' r') (Ff : FQ σ τ f sf l r) (U : BX σ τ bb jb ib xb yb) (V : BX σ τ cc jc ic xc yc) (hc : cT σ (nI 6) (nI f) (nI ja) (nI bb) (nI cc) = some (nI 0, σ)) : sx = 4 ∧ l' = nI xb ∧ yb = f ∧ r' = nI xc ∧ yc = f := by
  obtain ⟨a1, a2, a3, a4⟩ := A
  obtain ⟨x1, x2, x3, x4, x5, x6, x7, x8, x9⟩ := X
  obtain ⟨f1, f2, f3, f4, f5, f6, f7, f8, f9⟩ := Ff
  obtain ⟨⟨u1, u2, u3, u4, u5⟩, u6, u7, u8, u9, u10, u11⟩ := U
  obtain ⟨⟨v1, v2, v3, v4, v5⟩, v6, v7, v8, v9, v10, v11⟩ := V
  by_cases hs : sx = 4
  · subst hs
    rcases x9 with ⟨h, _⟩ | ⟨h, _⟩ | ⟨_, p, q, hp, hq, rfl, rfl⟩
    · omega
    · omega
    · have x7' := x7 (by omega)
      by_cases e1 : xb = p
      · by_cases e2 : yb = f
        · by_cases e3 : xc = q
          · by_cases e4 : yc = f
            · exact ⟨rfl, by rw [e1], e2, by rw [e3], e4⟩
            · exact (cT_no (w := 3) (by simp (implicitDefEqProofs := false) (disch := omega) only [cT, mX4_hasForm, mX4_firstFits, mX4_secondFits, mX4_thirdFits, mX4_refusal_128, mX4_refusal_129, a4, x4, x5, x6, f4, u10, u11, v10, v11, ↓bnd_e, ↓ob_s, ob_s, su_1, su_2, sl_1, sl_2, ↓ck_n, ck_n, ck_Z0, ck_Z1, c_lt, c_le, c_eq, ng_1, m_ne, m_en, m_lt, m_le, m_gt, m_ge, n_add, n_mul, n_sub, n_sm, n_pm, n_0m, n_cl, Nat.reduceEqDiff, ↓reduceIte, nle_T, nle_F, nlt_T, nlt_F, neq_F, neq_T, if_true, if_false, true_and, and_true, Nat.mul_zero, Nat.zero_add, Nat.add_zero, Nat.reduceAdd, Nat.reduceMul, Nat.reduceSub, li_0, li_1, li_2, li_3, li_4, li_5, li_6, li_7, li_8, li_9, li_10, li_11, li_12, li_13, li_14, li_15, li_16, li_20, li_24, li_28, li_31, li_35, li_38, li_40, li_41, li_45, li_48, li_60, li_62, li_63, li_97, li_100, li_104, li_105, li_120, li_124, li_127, li_180, li_239, li_240, li_255, li_256, li_300, li_400, li_960, li_1000000]) (Or.inr rfl) hc).elim
          · exact (cT_no (w := 3) (by simp (implicitDefEqProofs := false) (disch := omega) only [cT, mX4_hasForm, mX4_firstFits, mX4_secondFits, mX4_thirdFits, mX4_refusal_128, mX4_refusal_129, a4, x4, x5, x6, f4, u10, u11, v10, v11, ↓bnd_e, ↓ob_s, ob_s, su_1, su_2, sl_1, sl_2, ↓ck_n, ck_n, ck_Z0, ck_Z1, c_lt, c_le, c_eq, ng_1, m_ne, m_en, m_lt, m_le, m_gt, m_ge, n_add, n_mul, n_sub, n_sm, n_pm, n_0m, n_cl, Nat.reduceEqDiff, ↓reduceIte, nle_T, nle_F, nlt_T, nlt_F, neq_F, neq_T, if_true, if_false, true_and, and_true, Nat.mul_zero, Nat.zero_add, Nat.add_zero, Nat.reduceAdd, Nat.reduceMul, Nat.reduceSub, li_0, li_1, li_2, li_3, li_4, li_5, li_6, li_7, li_8, li_9, li_10, li_11, li_12, li_13, li_14, li_15, li_16, li_20, li_24, li_28, li_31, li_35, li_38, li_40, li_41, li_45, li_48, li_60, li_62, li_63, li_97, li_100, li_104, li_105, li_120, li_124, li_127, li_180, li_239, li_240, li_255, li_256, li_300, li_400, li_960, li_1000000]) (Or.inr rfl) hc).elim
        · by_cases e3 : xc = q
          · exact (cT_no (w := 3) (by simp (implicitDefEqProofs := false) (disch := omega) only [cT, mX4_hasForm, mX4_firstFits, mX4_secondFits, mX4_thirdFits, mX4_refusal_128, mX4_refusal_129, a4, x4, x5, x6, f4, u10, u11, v10, v11, ↓bnd_e, ↓ob_s, ob_s, su_1, su_2, sl_1, sl_2, ↓ck_n, ck_n, ck_Z0, ck_Z1, c_lt, c_le, c_eq, ng_1, m_ne, m_en, m_lt, m_le, m_gt, m_ge, n_add, n_mul, n_sub, n_sm, n_pm, n_0m, n_cl, Nat.reduceEqDiff, ↓reduceIte, nle_T, nle_F, nlt_T, nlt_F, neq_F, neq_T, if_true, if_false, true_and, and_true, Nat.mul_zero, Nat.zero_add, Nat.add_zero, Nat.reduceAdd, Nat.reduceMul, Nat.reduceSub, li_0, li_1, li_2, li_3, li_4, li_5, li_6, li_7, li_8, li_9, li_10, li_11, li_12, li_13, li_14, li_15, li_16, li_20, li_24, li_28, li_31, li_35, li_38, li_40, li_41, li_45, li_48, li_60, li_62, li_63, li_97, li_100, li_104, li_105, li_120, li_124, li_127, li_180, li_239, li_240, li_255, li_256, li_300, li_400, li_960, li_1000000]) (Or.inr rfl) hc).elim
          · exact (cT_no (w := 3) (by simp (implicitDefEqProofs := false) (disch := omega) only [cT, mX4_hasForm, mX4_firstFits, mX4_secondFits, mX4_thirdFits, mX4_refusal_128, mX4_refusal_129, a4, x4, x5, x6, f4, u10, u11, v10, v11, ↓bnd_e, ↓ob_s, ob_s, su_1, su_2, sl_1, sl_2, ↓ck_n, ck_n, ck_Z0, ck_Z1, c_lt, c_le, c_eq, ng_1, m_ne, m_en, m_lt, m_le, m_gt, m_ge, n_add, n_mul, n_sub, n_sm, n_pm, n_0m, n_cl, Nat.reduceEqDiff, ↓reduceIte, nle_T, nle_F, nlt_T, nlt_F, neq_F, neq_T, if_true, if_false, true_and, and_true, Nat.mul_zero, Nat.zero_add, Nat.add_zero, Nat.reduceAdd, Nat.reduceMul, Nat.reduceSub, li_0, li_1, li_2, li_3, li_4, li_5, li_6, li_7, li_8, li_9, li_10, li_11, li_12, li_13, li_14, li_15, li_16, li_20, li_24, li_28, li_31, li_35, li_38, li_40, li_41, li_45, li_48, li_60, li_62, li_63, li_97, li_100, li_104, li_105, li_120, li_124, li_127, li_180, li_239, li_240, li_255, li_256, li_300, li_400, li_960, li_1000000]) (Or.inr rfl) hc).elim
      · exact (cT_no (w := 3) (by simp (implicitDefEqProofs := false) (disch := omega) only [cT, mX4_hasForm, mX4_firstFits, mX4_secondFits, mX4_thirdFits, mX4_refusal_128, mX4_refusal_129, a4, x4, x5, x6, f4, u10, u11, v10, v11, ↓bnd_e, ↓ob_s, ob_s, su_1, su_2, sl_1, sl_2, ↓ck_n, ck_n, ck_Z0, ck_Z1, c_lt, c_le, c_eq, ng_1, m_ne, m_en, m_lt, m_le, m_gt, m_ge, n_add, n_mul, n_sub, n_sm, n_pm, n_0m, n_cl, Nat.reduceEqDiff, ↓reduceIte, nle_T, nle_F, nlt_T, nlt_F, neq_F, neq_T, if_true, if_false, true_and, and_true, Nat.mul_zero, Nat.zero_add, Nat.add_zero, Nat.reduceAdd, Nat.reduceMul, Nat.reduceSub, li_0, li_1, li_2, li_3, li_4, li_5, li_6, li_7, li_8, li_9, li_10, li_11, li_12, li_13, li_14, li_15, li_16, li_20, li_24, li_28, li_31, li_35, li_38, li_40, li_41, li_45, li_48, li_60, li_62, li_63, li_97, li_100, li_104, li_105, li_120, li_124, li_127, li_180, li_239, li_240, li_255, li_256, li_300, li_400, li_960, li_1000000]) (Or.inr rfl) hc).elim
  · exact (cT_no (w := 2) (by simp (implicitDefEqProofs := false) (disch := omega) only [cT, mX4_hasForm, mX4_firstFits, mX4_secondFits, mX4_thirdFits, mX4_refusal_128, mX4_refusal_129, a4, x4, ↓bnd_e, ↓ob_s, ob_s, su_1, su_2, sl_1, sl_2, ↓ck_n, ck_n, ck_Z0, ck_Z1, c_lt, c_le, c_eq, ng_1, m_ne, m_en, m_lt, m_le, m_gt, m_ge, n_add, n_mul, n_sub, n_sm, n_pm, n_0m, n_cl, Nat.reduceEqDiff, ↓reduceIte, nle_T, nle_F, nlt_T, nlt_F, neq_F, neq_T, if_true, if_false, true_and, and_true, Nat.mul_zero, Nat.zero_add, Nat.add_zero, Nat.reduceAdd, Nat.reduceMul, Nat.reduceSub, li_0, li_1, li_2, li_3, li_4, li_5, li_6, li_7, li_8, li_9, li_10, li_11, li_12, li_13, li_14, li_15, li_16, li_20, li_24, li_28, li_31, li_35, li_38, li_40, li_41, li_45, li_48, li_60, li_62, li_63, li_97, li_100, li_104, li_105, li_120, li_124, li_127, li_180, li_239, li_240, li_255, li_256, li_300, li_400, li_960, li_1000000]) (Or.inl rfl) hc).elim
theorem rs_7 {σ τ : St} {f sf ba ja ia xa ya : Nat} {l r b c v : Int32} (U : BX σ τ ba ja ia xa ya) (Ff : FQ σ τ f sf l r) (hv : mX3_formulaOf σ (nI ba) = some v) (hc : cT σ (nI 7) (nI f) (nI ba) b c = some (nI 0, σ)) : sf = 5 ∧ l = nI xa ∧ r = nI ya := by
  obtain ⟨⟨u1, u2, u3, u4, u5⟩, u6, u7, u8, u9, u10, u11⟩ := U
  obtain ⟨f1, f2, f3, f4, f5, f6, f7, f8, f9⟩ := Ff
  by_cases hs : sf = 5
  · subst hs
    rcases f9 with ⟨h, _⟩ | ⟨h, _⟩ | ⟨_, p, q, hp, hq, rfl, rfl⟩
    · omega
    · omega
    · have f7' := f7 (by omega)
      by_cases e1 : p = xa
      · by_cases e2 : q = ya
        · exact ⟨rfl, by rw [e1], by rw [e2]⟩
        · exact (cT_no (w := 3) (by simp (implicitDefEqProofs := false) (disch := omega) only [cT, mX4_hasForm, mX4_firstFits, mX4_secondFits, mX4_thirdFits, mX4_refusal_128, mX4_refusal_129, hv, f4, f5, f6, u10, u11, ↓bnd_e, ↓ob_s, ob_s, su_1, su_2, sl_1, sl_2, ↓ck_n, ck_n, ck_Z0, ck_Z1, c_lt, c_le, c_eq, ng_1, m_ne, m_en, m_lt, m_le, m_gt, m_ge, n_add, n_mul, n_sub, n_sm, n_pm, n_0m, n_cl, Nat.reduceEqDiff, ↓reduceIte, nle_T, nle_F, nlt_T, nlt_F, neq_F, neq_T, if_true, if_false, true_and, and_true, Nat.mul_zero, Nat.zero_add, Nat.add_zero, Nat.reduceAdd, Nat.reduceMul, Nat.reduceSub, li_0, li_1, li_2, li_3, li_4, li_5, li_6, li_7, li_8, li_9, li_10, li_11, li_12, li_13, li_14, li_15, li_16, li_20, li_24, li_28, li_31, li_35, li_38, li_40, li_41, li_45, li_48, li_60, li_62, li_63, li_97, li_100, li_104, li_105, li_120, li_124, li_127, li_180, li_239, li_240, li_255, li_256, li_300, li_400, li_960, li_1000000]) (Or.inr rfl) hc).elim
      · exact (cT_no (w := 3) (by simp (implicitDefEqProofs := false) (disch := omega) only [cT, mX4_hasForm, mX4_firstFits, mX4_secondFits, mX4_thirdFits, mX4_refusal_128, mX4_refusal_129, hv, f4, f5, f6, u10, u11, ↓bnd_e, ↓ob_s, ob_s, su_1, su_2, sl_1, sl_2, ↓ck_n, ck_n, ck_Z0, ck_Z1, c_lt, c_le, c_eq, ng_1, m_ne, m_en, m_lt, m_le, m_gt, m_ge, n_add, n_mul, n_sub, n_sm, n_pm, n_0m, n_cl, Nat.reduceEqDiff, ↓reduceIte, nle_T, nle_F, nlt_T, nlt_F, neq_F, neq_T, if_true, if_false, true_and, and_true, Nat.mul_zero, Nat.zero_add, Nat.add_zero, Nat.reduceAdd, Nat.reduceMul, Nat.reduceSub, li_0, li_1, li_2, li_3, li_4, li_5, li_6, li_7, li_8, li_9, li_10, li_11, li_12, li_13, li_14, li_15, li_16, li_20, li_24, li_28, li_31, li_35, li_38, li_40, li_41, li_45, li_48, li_60, li_62, li_63, li_97, li_100, li_104, li_105, li_120, li_124, li_127, li_180, li_239, li_240, li_255, li_256, li_300, li_400, li_960, li_1000000]) (Or.inr rfl) hc).elim
  · exact (cT_no (w := 3) (by simp (implicitDefEqProofs := false) (disch := omega) only [cT, mX4_hasForm, mX4_firstFits, mX4_secondFits, mX4_thirdFits, mX4_refusal_128, mX4_refusal_129, hv, f4, ↓bnd_e, ↓ob_s, ob_s, su_1, su_2, sl_1, sl_2, ↓ck_n, ck_n, ck_Z0, ck_Z1, c_lt, c_le, c_eq, ng_1, m_ne, m_en, m_lt, m_le, m_gt, m_ge, n_add, n_mul, n_sub, n_sm, n_pm, n_0m, n_cl, Nat.reduceEqDiff, ↓reduceIte, nle_T, nle_F, nlt_T, nlt_F, neq_F, neq_T, if_true, if_false, true_and, and_true, Nat.mul_zero, Nat.zero_add, Nat.add_zero, Nat.reduceAdd, Nat.reduceMul, Nat.reduceSub, li_0, li_1, li_2, li_3, li_4, li_5, li_6, li_7, li_8, li_9, li_10, li_11, li_12, li_13, li_14, li_15, li_16, li_20, li_24, li_28, li_31, li_35, li_38, li_40, li_41, li_45, li_48, li_60, li_62, li_63, li_97, li_100, li_104, li_105, li_120, li_124, li_127, li_180, li_239, li_240, li_255, li_256, li_300, li_400, li_960, li_1000000]) (Or.inr rfl) hc).elim
theorem rs_8 {σ τ : St} {ja jb x y f sf sx : Nat} {l r l' r' c : Int32} (A : LN σ τ ja x) (Bb : LN σ τ jb y) (X : FQ σ τ x sx l' r') (Ff : FQ σ τ f sf l r) (hc : cT σ (nI 8) (nI f) (nI ja) (nI jb) c = some (nI 0, σ)) : sx = 5 ∧ r' = nI f ∧ l' = nI y := by
  obtain ⟨a1, a2, a3, a4⟩ := A
  obtain ⟨b1, b2, b3, b4⟩ := Bb
  obtain ⟨x1, x2, x3, x4, x5, x6, x7, x8, x9⟩ := X
  obtain ⟨f1, f2, f3, f4, f5, f6, f7, f8, f9⟩ := Ff
  by_cases hs : sx = 5
  · subst hs
    rcases x9 with ⟨h, _⟩ | ⟨h, _⟩ | ⟨_, p, q, hp, hq, rfl, rfl⟩
    · omega
    · omega
    · have x7' := x7 (by omega)
      by_cases e1 : q = f
      · by_cases e2 : p = y
        · exact ⟨rfl, by rw [e1], by rw [e2]⟩
        · exact (cT_no (w := 3) (by simp (implicitDefEqProofs := false) (disch := omega) only [cT, mX4_hasForm, mX4_firstFits, mX4_secondFits, mX4_thirdFits, mX4_refusal_128, mX4_refusal_129, a4, b4, x4, x5, x6, f4, ↓bnd_e, ↓ob_s, ob_s, su_1, su_2, sl_1, sl_2, ↓ck_n, ck_n, ck_Z0, ck_Z1, c_lt, c_le, c_eq, ng_1, m_ne, m_en, m_lt, m_le, m_gt, m_ge, n_add, n_mul, n_sub, n_sm, n_pm, n_0m, n_cl, Nat.reduceEqDiff, ↓reduceIte, nle_T, nle_F, nlt_T, nlt_F, neq_F, neq_T, if_true, if_false, true_and, and_true, Nat.mul_zero, Nat.zero_add, Nat.add_zero, Nat.reduceAdd, Nat.reduceMul, Nat.reduceSub, li_0, li_1, li_2, li_3, li_4, li_5, li_6, li_7, li_8, li_9, li_10, li_11, li_12, li_13, li_14, li_15, li_16, li_20, li_24, li_28, li_31, li_35, li_38, li_40, li_41, li_45, li_48, li_60, li_62, li_63, li_97, li_100, li_104, li_105, li_120, li_124, li_127, li_180, li_239, li_240, li_255, li_256, li_300, li_400, li_960, li_1000000]) (Or.inr rfl) hc).elim
      · by_cases e2 : p = y
        · exact (cT_no (w := 3) (by simp (implicitDefEqProofs := false) (disch := omega) only [cT, mX4_hasForm, mX4_firstFits, mX4_secondFits, mX4_thirdFits, mX4_refusal_128, mX4_refusal_129, a4, b4, x4, x5, x6, f4, ↓bnd_e, ↓ob_s, ob_s, su_1, su_2, sl_1, sl_2, ↓ck_n, ck_n, ck_Z0, ck_Z1, c_lt, c_le, c_eq, ng_1, m_ne, m_en, m_lt, m_le, m_gt, m_ge, n_add, n_mul, n_sub, n_sm, n_pm, n_0m, n_cl, Nat.reduceEqDiff, ↓reduceIte, nle_T, nle_F, nlt_T, nlt_F, neq_F, neq_T, if_true, if_false, true_and, and_true, Nat.mul_zero, Nat.zero_add, Nat.add_zero, Nat.reduceAdd, Nat.reduceMul, Nat.reduceSub, li_0, li_1, li_2, li_3, li_4, li_5, li_6, li_7, li_8, li_9, li_10, li_11, li_12, li_13, li_14, li_15, li_16, li_20, li_24, li_28, li_31, li_35, li_38, li_40, li_41, li_45, li_48, li_60, li_62, li_63, li_97, li_100, li_104, li_105, li_120, li_124, li_127, li_180, li_239, li_240, li_255, li_256, li_300, li_400, li_960, li_1000000]) (Or.inr rfl) hc).elim
        · exact (cT_no (w := 3) (by simp (implicitDefEqProofs := false) (disch := omega) only [cT, mX4_hasForm, mX4_firstFits, mX4_secondFits, mX4_thirdFits, mX4_refusal_128, mX4_refusal_129, a4, b4, x4, x5, x6, f4, ↓bnd_e, ↓ob_s, ob_s, su_1, su_2, sl_1, sl_2, ↓ck_n, ck_n, ck_Z0, ck_Z1, c_lt, c_le, c_eq, ng_1, m_ne, m_en, m_lt, m_le, m_gt, m_ge, n_add, n_mul, n_sub, n_sm, n_pm, n_0m, n_cl, Nat.reduceEqDiff, ↓reduceIte, nle_T, nle_F, nlt_T, nlt_F, neq_F, neq_T, if_true, if_false, true_and, and_true, Nat.mul_zero, Nat.zero_add, Nat.add_zero, Nat.reduceAdd, Nat.reduceMul, Nat.reduceSub, li_0, li_1, li_2, li_3, li_4, li_5, li_6, li_7, li_8, li_9, li_10, li_11, li_12, li_13, li_14, li_15, li_16, li_20, li_24, li_28, li_31, li_35, li_38, li_40, li_41, li_45, li_48, li_60, li_62, li_63, li_97, li_100, li_104, li_105, li_120, li_124, li_127, li_180, li_239, li_240, li_255, li_256, li_300, li_400, li_960, li_1000000]) (Or.inr rfl) hc).elim
  · exact (cT_no (w := 2) (by simp (implicitDefEqProofs := false) (disch := omega) only [cT, mX4_hasForm, mX4_firstFits, mX4_secondFits, mX4_thirdFits, mX4_refusal_128, mX4_refusal_129, a4, x4, ↓bnd_e, ↓ob_s, ob_s, su_1, su_2, sl_1, sl_2, ↓ck_n, ck_n, ck_Z0, ck_Z1, c_lt, c_le, c_eq, ng_1, m_ne, m_en, m_lt, m_le, m_gt, m_ge, n_add, n_mul, n_sub, n_sm, n_pm, n_0m, n_cl, Nat.reduceEqDiff, ↓reduceIte, nle_T, nle_F, nlt_T, nlt_F, neq_F, neq_T, if_true, if_false, true_and, and_true, Nat.mul_zero, Nat.zero_add, Nat.add_zero, Nat.reduceAdd, Nat.reduceMul, Nat.reduceSub, li_0, li_1, li_2, li_3, li_4, li_5, li_6, li_7, li_8, li_9, li_10, li_11, li_12, li_13, li_14, li_15, li_16, li_20, li_24, li_28, li_31, li_35, li_38, li_40, li_41, li_45, li_48, li_60, li_62, li_63, li_97, li_100, li_104, li_105, li_120, li_124, li_127, li_180, li_239, li_240, li_255, li_256, li_300, li_400, li_960, li_1000000]) (Or.inl rfl) hc).elim
theorem rs_9 {σ τ : St} {f sf se ba ja ia xa ya : Nat} {l r l' r' b c v : Int32} (U : BX σ τ ba ja ia xa ya) (E : FQ σ τ ya se l' r') (Ff : FQ σ τ f sf l r) (hv : mX3_formulaOf σ (nI ba) = some v) (hc : cT σ (nI 9) (nI f) (nI ba) b c = some (nI 0, σ)) : se = 1 ∧ sf = 2 ∧ l = nI xa := by
  obtain ⟨⟨u1, u2, u3, u4, u5⟩, u6, u7, u8, u9, u10, u11⟩ := U
  obtain ⟨x1, x2, x3, x4, x5, x6, x7, x8, x9⟩ := E
  obtain ⟨f1, f2, f3, f4, f5, f6, f7, f8, f9⟩ := Ff
  by_cases hs : se = 1
  · subst hs
    by_cases h2 : sf = 2
    · subst h2
      rcases f9 with ⟨h, _⟩ | ⟨_, rfl, p, hp, rfl⟩ | ⟨h, _⟩
      · omega
      · have f7' := f7 (by omega)
        by_cases e1 : p = xa
        · exact ⟨rfl, rfl, by rw [e1]⟩
        · exact (cT_no (w := 3) (by simp (implicitDefEqProofs := false) (disch := omega) only [cT, mX4_hasForm, mX4_firstFits, mX4_secondFits, mX4_thirdFits, mX4_refusal_128, mX4_refusal_129, hv, f4, f5, f6, u10, u11, x4, ↓bnd_e, ↓ob_s, ob_s, su_1, su_2, sl_1, sl_2, ↓ck_n, ck_n, ck_Z0, ck_Z1, c_lt, c_le, c_eq, ng_1, m_ne, m_en, m_lt, m_le, m_gt, m_ge, n_add, n_mul, n_sub, n_sm, n_pm, n_0m, n_cl, Nat.reduceEqDiff, ↓reduceIte, nle_T, nle_F, nlt_T, nlt_F, neq_F, neq_T, if_true, if_false, true_and, and_true, Nat.mul_zero, Nat.zero_add, Nat.add_zero, Nat.reduceAdd, Nat.reduceMul, Nat.reduceSub, li_0, li_1, li_2, li_3, li_4, li_5, li_6, li_7, li_8, li_9, li_10, li_11, li_12, li_13, li_14, li_15, li_16, li_20, li_24, li_28, li_31, li_35, li_38, li_40, li_41, li_45, li_48, li_60, li_62, li_63, li_97, li_100, li_104, li_105, li_120, li_124, li_127, li_180, li_239, li_240, li_255, li_256, li_300, li_400, li_960, li_1000000]) (Or.inr rfl) hc).elim
      · omega
    · exact (cT_no (w := 3) (by simp (implicitDefEqProofs := false) (disch := omega) only [cT, mX4_hasForm, mX4_firstFits, mX4_secondFits, mX4_thirdFits, mX4_refusal_128, mX4_refusal_129, hv, f4, u10, u11, x4, ↓bnd_e, ↓ob_s, ob_s, su_1, su_2, sl_1, sl_2, ↓ck_n, ck_n, ck_Z0, ck_Z1, c_lt, c_le, c_eq, ng_1, m_ne, m_en, m_lt, m_le, m_gt, m_ge, n_add, n_mul, n_sub, n_sm, n_pm, n_0m, n_cl, Nat.reduceEqDiff, ↓reduceIte, nle_T, nle_F, nlt_T, nlt_F, neq_F, neq_T, if_true, if_false, true_and, and_true, Nat.mul_zero, Nat.zero_add, Nat.add_zero, Nat.reduceAdd, Nat.reduceMul, Nat.reduceSub, li_0, li_1, li_2, li_3, li_4, li_5, li_6, li_7, li_8, li_9, li_10, li_11, li_12, li_13, li_14, li_15, li_16, li_20, li_24, li_28, li_31, li_35, li_38, li_40, li_41, li_45, li_48, li_60, li_62, li_63, li_97, li_100, li_104, li_105, li_120, li_124, li_127, li_180, li_239, li_240, li_255, li_256, li_300, li_400, li_960, li_1000000]) (Or.inr rfl) hc).elim
  · exact (cT_no (w := 2) (by simp (implicitDefEqProofs := false) (disch := omega) only [cT, mX4_hasForm, mX4_firstFits, mX4_secondFits, mX4_thirdFits, mX4_refusal_128, mX4_refusal_129, hv, u11, x4, ↓bnd_e, ↓ob_s, ob_s, su_1, su_2, sl_1, sl_2, ↓ck_n, ck_n, ck_Z0, ck_Z1, c_lt, c_le, c_eq, ng_1, m_ne, m_en, m_lt, m_le, m_gt, m_ge, n_add, n_mul, n_sub, n_sm, n_pm, n_0m, n_cl, Nat.reduceEqDiff, ↓reduceIte, nle_T, nle_F, nlt_T, nlt_F, neq_F, neq_T, if_true, if_false, true_and, and_true, Nat.mul_zero, Nat.zero_add, Nat.add_zero, Nat.reduceAdd, Nat.reduceMul, Nat.reduceSub, li_0, li_1, li_2, li_3, li_4, li_5, li_6, li_7, li_8, li_9, li_10, li_11, li_12, li_13, li_14, li_15, li_16, li_20, li_24, li_28, li_31, li_35, li_38, li_40, li_41, li_45, li_48, li_60, li_62, li_63, li_97, li_100, li_104, li_105, li_120, li_124, li_127, li_180, li_239, li_240, li_255, li_256, li_300, li_400, li_960, li_1000000]) (Or.inl rfl) hc).elim
theorem rs_10 {σ τ : St} {ja jb x y f sf sy : Nat} {l r l' r' c : Int32} (A : LN σ τ ja x) (Bb : LN σ τ jb y) (Y : FQ σ τ y sy l' r') (Ff : FQ σ τ f sf l r) (hc : cT σ (nI 10) (nI f) (nI ja) (nI jb) c = some (nI 0, σ)) : sy = 2 ∧ l' = nI x ∧ sf = 1 := by
  obtain ⟨a1, a2, a3, a4⟩ := A
  obtain ⟨b1, b2, b3, b4⟩ := Bb
  obtain ⟨x1, x2, x3, x4, x5, x6, x7, x8, x9⟩ := Y
  obtain ⟨f1, f2, f3, f4, f5, f6, f7, f8, f9⟩ := Ff
  by_cases hs : sy = 2
  · subst hs
    rcases x9 with ⟨h, _⟩ | ⟨_, rfl, p, hp, rfl⟩ | ⟨h, _⟩
    · omega
    · have x7' := x7 (by omega)
      by_cases h1 : sf = 1
      · by_cases e2 : p = x
        · exact ⟨rfl, by rw [e2], h1⟩
        · exact (cT_no (w := 3) (by simp (implicitDefEqProofs := false) (disch := omega) only [cT, mX4_hasForm, mX4_firstFits, mX4_secondFits, mX4_thirdFits, mX4_refusal_128, mX4_refusal_129, a4, b4, x4, x5, x6, f4, ↓bnd_e, ↓ob_s, ob_s, su_1, su_2, sl_1, sl_2, ↓ck_n, ck_n, ck_Z0, ck_Z1, c_lt, c_le, c_eq, ng_1, m_ne, m_en, m_lt, m_le, m_gt, m_ge, n_add, n_mul, n_sub, n_sm, n_pm, n_0m, n_cl, Nat.reduceEqDiff, ↓reduceIte, nle_T, nle_F, nlt_T, nlt_F, neq_F, neq_T, if_true, if_false, true_and, and_true, Nat.mul_zero, Nat.zero_add, Nat.add_zero, Nat.reduceAdd, Nat.reduceMul, Nat.reduceSub, li_0, li_1, li_2, li_3, li_4, li_5, li_6, li_7, li_8, li_9, li_10, li_11, li_12, li_13, li_14, li_15, li_16, li_20, li_24, li_28, li_31, li_35, li_38, li_40, li_41, li_45, li_48, li_60, li_62, li_63, li_97, li_100, li_104, li_105, li_120, li_124, li_127, li_180, li_239, li_240, li_255, li_256, li_300, li_400, li_960, li_1000000]) (Or.inr rfl) hc).elim
      · by_cases e2 : p = x
        · exact (cT_no (w := 3) (by simp (implicitDefEqProofs := false) (disch := omega) only [cT, mX4_hasForm, mX4_firstFits, mX4_secondFits, mX4_thirdFits, mX4_refusal_128, mX4_refusal_129, a4, b4, x4, x5, x6, f4, ↓bnd_e, ↓ob_s, ob_s, su_1, su_2, sl_1, sl_2, ↓ck_n, ck_n, ck_Z0, ck_Z1, c_lt, c_le, c_eq, ng_1, m_ne, m_en, m_lt, m_le, m_gt, m_ge, n_add, n_mul, n_sub, n_sm, n_pm, n_0m, n_cl, Nat.reduceEqDiff, ↓reduceIte, nle_T, nle_F, nlt_T, nlt_F, neq_F, neq_T, if_true, if_false, true_and, and_true, Nat.mul_zero, Nat.zero_add, Nat.add_zero, Nat.reduceAdd, Nat.reduceMul, Nat.reduceSub, li_0, li_1, li_2, li_3, li_4, li_5, li_6, li_7, li_8, li_9, li_10, li_11, li_12, li_13, li_14, li_15, li_16, li_20, li_24, li_28, li_31, li_35, li_38, li_40, li_41, li_45, li_48, li_60, li_62, li_63, li_97, li_100, li_104, li_105, li_120, li_124, li_127, li_180, li_239, li_240, li_255, li_256, li_300, li_400, li_960, li_1000000]) (Or.inr rfl) hc).elim
        · exact (cT_no (w := 3) (by simp (implicitDefEqProofs := false) (disch := omega) only [cT, mX4_hasForm, mX4_firstFits, mX4_secondFits, mX4_thirdFits, mX4_refusal_128, mX4_refusal_129, a4, b4, x4, x5, x6, f4, ↓bnd_e, ↓ob_s, ob_s, su_1, su_2, sl_1, sl_2, ↓ck_n, ck_n, ck_Z0, ck_Z1, c_lt, c_le, c_eq, ng_1, m_ne, m_en, m_lt, m_le, m_gt, m_ge, n_add, n_mul, n_sub, n_sm, n_pm, n_0m, n_cl, Nat.reduceEqDiff, ↓reduceIte, nle_T, nle_F, nlt_T, nlt_F, neq_F, neq_T, if_true, if_false, true_and, and_true, Nat.mul_zero, Nat.zero_add, Nat.add_zero, Nat.reduceAdd, Nat.reduceMul, Nat.reduceSub, li_0, li_1, li_2, li_3, li_4, li_5, li_6, li_7, li_8, li_9, li_10, li_11, li_12, li_13, li_14, li_15, li_16, li_20, li_24, li_28, li_31, li_35, li_38, li_40, li_41, li_45, li_48, li_60, li_62, li_63, li_97, li_100, li_104, li_105, li_120, li_124, li_127, li_180, li_239, li_240, li_255, li_256, li_300, li_400, li_960, li_1000000]) (Or.inr rfl) hc).elim
    · omega
  · exact (cT_no (w := 2) (by simp (implicitDefEqProofs := false) (disch := omega) only [cT, mX4_hasForm, mX4_firstFits, mX4_secondFits, mX4_thirdFits, mX4_refusal_128, mX4_refusal_129, a4, b4, x4, ↓bnd_e, ↓ob_s, ob_s, su_1, su_2, sl_1, sl_2, ↓ck_n, ck_n, ck_Z0, ck_Z1, c_lt, c_le, c_eq, ng_1, m_ne, m_en, m_lt, m_le, m_gt, m_ge, n_add, n_mul, n_sub, n_sm, n_pm, n_0m, n_cl, Nat.reduceEqDiff, ↓reduceIte, nle_T, nle_F, nlt_T, nlt_F, neq_F, neq_T, if_true, if_false, true_and, and_true, Nat.mul_zero, Nat.zero_add, Nat.add_zero, Nat.reduceAdd, Nat.reduceMul, Nat.reduceSub, li_0, li_1, li_2, li_3, li_4, li_5, li_6, li_7, li_8, li_9, li_10, li_11, li_12, li_13, li_14, li_15, li_16, li_20, li_24, li_28, li_31, li_35, li_38, li_40, li_41, li_45, li_48, li_60, li_62, li_63, li_97, li_100, li_104, li_105, li_120, li_124, li_127, li_180, li_239, li_240, li_255, li_256, li_300, li_400, li_960, li_1000000]) (Or.inl rfl) hc).elim
theorem rs_11 {σ τ : St} {ja x f sf sx : Nat} {l r l' r' b c : Int32} (A : LN σ τ ja x) (X : FQ σ τ x sx l' r') (Ff : FQ σ τ f sf l r) (hc : cT σ (nI 11) (nI f) (nI ja) b c = some (nI 0, σ)) : sx = 1 := by
  obtain ⟨a1, a2, a3, a4⟩ := A
  obtain ⟨x1, x2, x3, x4, x5, x6, x7, x8, x9⟩ := X
  obtain ⟨f1, f2, f3, f4, f5, f6, f7, f8, f9⟩ := Ff
  by_cases hs : sx = 1
  · exact hs
  · exact (cT_no (w := 2) (by simp (implicitDefEqProofs := false) (disch := omega) only [cT, mX4_hasForm, mX4_firstFits, mX4_secondFits, mX4_thirdFits, mX4_refusal_128, mX4_refusal_129, a4, x4, ↓bnd_e, ↓ob_s, ob_s, su_1, su_2, sl_1, sl_2, ↓ck_n, ck_n, ck_Z0, ck_Z1, c_lt, c_le, c_eq, ng_1, m_ne, m_en, m_lt, m_le, m_gt, m_ge, n_add, n_mul, n_sub, n_sm, n_pm, n_0m, n_cl, Nat.reduceEqDiff, ↓reduceIte, nle_T, nle_F, nlt_T, nlt_F, neq_F, neq_T, if_true, if_false, true_and, and_true, Nat.mul_zero, Nat.zero_add, Nat.add_zero, Nat.reduceAdd, Nat.reduceMul, Nat.reduceSub, li_0, li_1, li_2, li_3, li_4, li_5, li_6, li_7, li_8, li_9, li_10, li_11, li_12, li_13, li_14, li_15, li_16, li_20, li_24, li_28, li_31, li_35, li_38, li_40, li_41, li_45, li_48, li_60, li_62, li_63, li_97, li_100, li_104, li_105, li_120, li_124, li_127, li_180, li_239, li_240, li_255, li_256, li_300, li_400, li_960, li_1000000]) (Or.inl rfl) hc).elim
theorem rs_12 {F : Nat} {σ τ : St} {ja x f sf sx : Nat} {l r l' r' b c : Int32} (hf : RF F σ τ) (hx : x < F) (A : LN σ τ ja x) (X : FQ σ τ x sx l' r') (Ff : FQ σ τ f sf l r) (hc : cT σ (nI 12) (nI f) (nI ja) b c = some (nI 0, σ)) : sx = 2 ∧ ∃ p, p < F ∧ l' = nI p ∧ ∃ rp, FQ σ τ p 2 (nI f) rp := by
  have hF := hf.le
  have ag := hf.st hx
  obtain ⟨a1, a2, a3, a4⟩ := A
  obtain ⟨x1, x2, x3, x4, x5, x6, x7, x8, x9⟩ := X
  obtain ⟨f1, f2, f3, f4, f5, f6, f7, f8, f9⟩ := Ff
  by_cases hs : sx = 2
  · subst hs
    rcases x9 with ⟨h, _⟩ | ⟨_, rfl, p, hp, rfl⟩ | ⟨h, _⟩
    · omega
    · have x7' := x7 (by omega)
      have hpF : p < F := by
        obtain ⟨s, s5, e1, _, g⟩ := ag
        rw [x3, c_eq (by omega) (by omega)] at e1
        subst e1
        rcases g with ⟨h, _⟩ | ⟨h, _⟩ | ⟨_, p', hp', g1, _⟩ | ⟨h, _⟩
        · omega
        · omega
        · rw [x7', c_eq (by omega) (by omega)] at g1; omega
        · omega
      obtain ⟨sp, lp, rp, y1, y2, y3, y4, y5, y6, y7, y8, y9⟩ := FQ.of hf hpF
      by_cases h2 : sp = 2
      · subst h2
        rcases y9 with ⟨h, _⟩ | ⟨_, rfl, q, hq, rfl⟩ | ⟨h, _⟩
        · omega
        · have y7' := y7 (by omega)
          by_cases e1 : q = f
          · exact ⟨rfl, p, hpF, rfl, mI, by rw [← e1]; exact ⟨y1, y2, y3, y4, y5, y6, y7, y8, Or.inr (Or.inl ⟨rfl, rfl, q, hq, rfl⟩)⟩⟩
          · exact (cT_no (w := 3) (by simp (implicitDefEqProofs := false) (disch := omega) only [cT, mX4_hasForm, mX4_firstFits, mX4_secondFits, mX4_thirdFits, mX4_refusal_128, mX4_refusal_129, a4, x4, x5, y4, y5, f4, ↓bnd_e, ↓ob_s, ob_s, su_1, su_2, sl_1, sl_2, ↓ck_n, ck_n, ck_Z0, ck_Z1, c_lt, c_le, c_eq, ng_1, m_ne, m_en, m_lt, m_le, m_gt, m_ge, n_add, n_mul, n_sub, n_sm, n_pm, n_0m, n_cl, Nat.reduceEqDiff, ↓reduceIte, nle_T, nle_F, nlt_T, nlt_F, neq_F, neq_T, if_true, if_false, true_and, and_true, Nat.mul_zero, Nat.zero_add, Nat.add_zero, Nat.reduceAdd, Nat.reduceMul, Nat.reduceSub, li_0, li_1, li_2, li_3, li_4, li_5, li_6, li_7, li_8, li_9, li_10, li_11, li_12, li_13, li_14, li_15, li_16, li_20, li_24, li_28, li_31, li_35, li_38, li_40, li_41, li_45, li_48, li_60, li_62, li_63, li_97, li_100, li_104, li_105, li_120, li_124, li_127, li_180, li_239, li_240, li_255, li_256, li_300, li_400, li_960, li_1000000]) (Or.inr rfl) hc).elim
        · omega
      · exact (cT_no (w := 2) (by simp (implicitDefEqProofs := false) (disch := omega) only [cT, mX4_hasForm, mX4_firstFits, mX4_secondFits, mX4_thirdFits, mX4_refusal_128, mX4_refusal_129, a4, x4, x5, y4, ↓bnd_e, ↓ob_s, ob_s, su_1, su_2, sl_1, sl_2, ↓ck_n, ck_n, ck_Z0, ck_Z1, c_lt, c_le, c_eq, ng_1, m_ne, m_en, m_lt, m_le, m_gt, m_ge, n_add, n_mul, n_sub, n_sm, n_pm, n_0m, n_cl, Nat.reduceEqDiff, ↓reduceIte, nle_T, nle_F, nlt_T, nlt_F, neq_F, neq_T, if_true, if_false, true_and, and_true, Nat.mul_zero, Nat.zero_add, Nat.add_zero, Nat.reduceAdd, Nat.reduceMul, Nat.reduceSub, li_0, li_1, li_2, li_3, li_4, li_5, li_6, li_7, li_8, li_9, li_10, li_11, li_12, li_13, li_14, li_15, li_16, li_20, li_24, li_28, li_31, li_35, li_38, li_40, li_41, li_45, li_48, li_60, li_62, li_63, li_97, li_100, li_104, li_105, li_120, li_124, li_127, li_180, li_239, li_240, li_255, li_256, li_300, li_400, li_960, li_1000000]) (Or.inl rfl) hc).elim
    · omega
  · exact (cT_no (w := 2) (by simp (implicitDefEqProofs := false) (disch := omega) only [cT, mX4_hasForm, mX4_firstFits, mX4_secondFits, mX4_thirdFits, mX4_refusal_128, mX4_refusal_129, a4, x4, ↓bnd_e, ↓ob_s, ob_s, su_1, su_2, sl_1, sl_2, ↓ck_n, ck_n, ck_Z0, ck_Z1, c_lt, c_le, c_eq, ng_1, m_ne, m_en, m_lt, m_le, m_gt, m_ge, n_add, n_mul, n_sub, n_sm, n_pm, n_0m, n_cl, Nat.reduceEqDiff, ↓reduceIte, nle_T, nle_F, nlt_T, nlt_F, neq_F, neq_T, if_true, if_false, true_and, and_true, Nat.mul_zero, Nat.zero_add, Nat.add_zero, Nat.reduceAdd, Nat.reduceMul, Nat.reduceSub, li_0, li_1, li_2, li_3, li_4, li_5, li_6, li_7, li_8, li_9, li_10, li_11, li_12, li_13, li_14, li_15, li_16, li_20, li_24, li_28, li_31, li_35, li_38, li_40, li_41, li_45, li_48, li_60, li_62, li_63, li_97, li_100, li_104, li_105, li_120, li_124, li_127, li_180, li_239, li_240, li_255, li_256, li_300, li_400, li_960, li_1000000]) (Or.inl rfl) hc).elim
/-- no box, or an open one -/
def OB (B : Nat) (σ : St) (y : Int32) : Prop := y = mI ∨ ∃ o, o < B ∧ y = nI o ∧ σ.1 37 o = mI
def RG (L B kd : Nat) (σ : St) (x : Int32) : Prop := (kd = 1 → ∃ j, j < L ∧ x = nI j ∧ OB B σ (σ.1 33 j)) ∧ (kd = 2 → ∃ b i, b < B ∧ x = nI b ∧ i < L ∧ σ.1 37 b = nI i ∧ OB B σ (σ.1 38 b))
section
variable {F T L B O m : Nat} {σ τ : St}
/-- what counts as open is open -/
theorem ob_of (h : VV F T L B O σ τ) {y : Int32} (hy : y = mI ∨ ∃ b, b < B ∧ y = nI b) (ho : mX0_isOpen σ y = some (nI 1)) : OB B σ y := by
  have hL : L ≤ 60 := h.2.2.2.1.1
  have hB : B ≤ 60 := by have := h.2.2.2.1.2.1; omega
  rcases hy with rfl | ⟨b, hb, rfl⟩
  · exact Or.inl rfl
  · have e37 := h.2.1.2.2.2.2.2.1
    rcases (h.2.2.2.2.2.2.2.1 b hb).1 with e | ⟨j, hj, e⟩
    · exact Or.inr ⟨b, hb, rfl, by rw [e37]; exact e⟩
    · have q := (x0_isOpen (σ := σ) (e := τ.1 26) (B := B) (b := b) hB h.1.2.2.1 e37 hb).2 j (by omega) e
      rw [ho] at q
      exact absurd (Option.some.inj q) (by decide)
theorem rg_of (h : VV F T L B O σ τ) {kd : Nat} (hk : kd ≤ 2) {x : Int32} (g : mX4_reaches σ (nI kd) x = some (nI 1)) : RG L B kd σ x := by
  have hL : L ≤ 60 := h.2.2.2.1.1
  have hB : B ≤ 60 := by have := h.2.2.2.1.2.1; omega
  have a8 := h.1.1
  have a1 := h.1.2.2.1
  have k3 : kd = 0 ∨ kd = 1 ∨ kd = 2 := by omega
  rcases k3 with rfl | rfl | rfl
  · exact ⟨fun h => by omega, fun h => by omega⟩
  · refine ⟨fun _ => ?_, fun h => by omega⟩
    obtain ⟨c, c1, _, c3⟩ := seen_line h x
    have ct : c = true := by
      cases c
      · rw [zB_0] at c1
        have : mX4_reaches σ (nI 1) x = some (nI 0) := by simp (implicitDefEqProofs := false) (disch := omega) only [mX4_reaches, c1, ↓bnd_e, ↓ob_s, ob_s, su_1, su_2, sl_1, sl_2, ↓ck_n, ck_n, ck_Z0, ck_Z1, c_lt, c_le, c_eq, ng_1, m_ne, m_en, m_lt, m_le, m_gt, m_ge, n_add, n_mul, n_sub, n_sm, n_pm, n_0m, n_cl, Nat.reduceEqDiff, ↓reduceIte, nle_T, nle_F, nlt_T, nlt_F, neq_F, neq_T, if_true, if_false, true_and, and_true, Nat.mul_zero, Nat.zero_add, Nat.add_zero, Nat.reduceAdd, Nat.reduceMul, Nat.reduceSub, li_0, li_1, li_2, li_3, li_4, li_5, li_6, li_7, li_8, li_9, li_10, li_11, li_12, li_13, li_14, li_15, li_16, li_20, li_24, li_28, li_31, li_35, li_38, li_40, li_41, li_45, li_48, li_60, li_62, li_63, li_97, li_100, li_104, li_105, li_120, li_124, li_127, li_180, li_239, li_240, li_255, li_256, li_300, li_400, li_960, li_1000000]
        rw [g] at this
        exact absurd (Option.some.inj this) (by decide)
      · rfl
    obtain ⟨j, hj, rfl⟩ := c3 ct
    refine ⟨j, hj, rfl, ?_⟩
    subst ct
    rw [zB_1] at c1
    have hw := h.wl j hj
    obtain ⟨v, v1, v2⟩ := open_rel h (x := σ.1 33 j) hw
    have vt : v = true := by
      cases v
      · rw [zB_0] at v1
        have : mX3_seesLine σ (nI j) = some (nI 0) := by simp (implicitDefEqProofs := false) (disch := omega) only [mX3_seesLine, a8, v1, ↓bnd_e, ↓ob_s, ob_s, su_1, su_2, sl_1, sl_2, ↓ck_n, ck_n, ck_Z0, ck_Z1, c_lt, c_le, c_eq, ng_1, m_ne, m_en, m_lt, m_le, m_gt, m_ge, n_add, n_mul, n_sub, n_sm, n_pm, n_0m, n_cl, Nat.reduceEqDiff, ↓reduceIte, nle_T, nle_F, nlt_T, nlt_F, neq_F, neq_T, if_true, if_false, true_and, and_true, Nat.mul_zero, Nat.zero_add, Nat.add_zero, Nat.reduceAdd, Nat.reduceMul, Nat.reduceSub, li_0, li_1, li_2, li_3, li_4, li_5, li_6, li_7, li_8, li_9, li_10, li_11, li_12, li_13, li_14, li_15, li_16, li_20, li_24, li_28, li_31, li_35, li_38, li_40, li_41, li_45, li_48, li_60, li_62, li_63, li_97, li_100, li_104, li_105, li_120, li_124, li_127, li_180, li_239, li_240, li_255, li_256, li_300, li_400, li_960, li_1000000]
        rw [c1] at this
        exact absurd (Option.some.inj this) (by decide)
      · rfl
    subst vt
    exact ob_of h hw v1
  · refine ⟨fun h => by omega, fun _ => ?_⟩
    obtain ⟨c, c1, _, c3⟩ := seen_box h x
    have ct : c = true := by
      cases c
      · rw [zB_0] at c1
        have : mX4_reaches σ (nI 2) x = some (nI 0) := by simp (implicitDefEqProofs := false) (disch := omega) only [mX4_reaches, c1, ↓bnd_e, ↓ob_s, ob_s, su_1, su_2, sl_1, sl_2, ↓ck_n, ck_n, ck_Z0, ck_Z1, c_lt, c_le, c_eq, ng_1, m_ne, m_en, m_lt, m_le, m_gt, m_ge, n_add, n_mul, n_sub, n_sm, n_pm, n_0m, n_cl, Nat.reduceEqDiff, ↓reduceIte, nle_T, nle_F, nlt_T, nlt_F, neq_F, neq_T, if_true, if_false, true_and, and_true, Nat.mul_zero, Nat.zero_add, Nat.add_zero, Nat.reduceAdd, Nat.reduceMul, Nat.reduceSub, li_0, li_1, li_2, li_3, li_4, li_5, li_6, li_7, li_8, li_9, li_10, li_11, li_12, li_13, li_14, li_15, li_16, li_20, li_24, li_28, li_31, li_35, li_38, li_40, li_41, li_45, li_48, li_60, li_62, li_63, li_97, li_100, li_104, li_105, li_120, li_124, li_127, li_180, li_239, li_240, li_255, li_256, li_300, li_400, li_960, li_1000000]
        rw [g] at this
        exact absurd (Option.some.inj this) (by decide)
      · rfl
    obtain ⟨j, hj, rfl, i, hi, ei⟩ := c3 ct
    have e37 : σ.1 37 j = nI i := by rw [h.2.1.2.2.2.2.2.1]; exact ei
    refine ⟨j, i, hj, rfl, hi, e37, ?_⟩
    subst ct
    rw [zB_1] at c1
    have hw : σ.1 38 j = mI ∨ ∃ b, b < B ∧ σ.1 38 j = nI b := by
      rcases (h.wb.2.2 j hj).2 with e | ⟨o, o1, e⟩
      · exact Or.inl e
      · exact Or.inr ⟨o, by omega, e⟩
    obtain ⟨v, v1, v2⟩ := open_rel h (x := σ.1 38 j) hw
    have vt : v = true := by
      cases v
      · rw [zB_0] at v1
        have : mX3_seesBox σ (nI j) = some (nI 0) := by simp (implicitDefEqProofs := false) (disch := omega) only [mX3_seesBox, mX0_canBeReferredTo, a1, e37, v1, ↓bnd_e, ↓ob_s, ob_s, su_1, su_2, sl_1, sl_2, ↓ck_n, ck_n, ck_Z0, ck_Z1, c_lt, c_le, c_eq, ng_1, m_ne, m_en, m_lt, m_le, m_gt, m_ge, n_add, n_mul, n_sub, n_sm, n_pm, n_0m, n_cl, Nat.reduceEqDiff, ↓reduceIte, nle_T, nle_F, nlt_T, nlt_F, neq_F, neq_T, if_true, if_false, true_and, and_true, Nat.mul_zero, Nat.zero_add, Nat.add_zero, Nat.reduceAdd, Nat.reduceMul, Nat.reduceSub, li_0, li_1, li_2, li_3, li_4, li_5, li_6, li_7, li_8, li_9, li_10, li_11, li_12, li_13, li_14, li_15, li_16, li_20, li_24, li_28, li_31, li_35, li_38, li_40, li_41, li_45, li_48, li_60, li_62, li_63, li_97, li_100, li_104, li_105, li_120, li_124, li_127, li_180, li_239, li_240, li_255, li_256, li_300, li_400, li_960, li_1000000]
        rw [c1] at this
        exact absurd (Option.some.inj this) (by decide)
      · rfl
    subst vt
    exact ob_of h hw v1
theorem ch_ob (h : VV F T L B O σ τ) {q : Nat} (hc : CH σ q (σ.1 11 0)) {y : Int32} (hy : OB B σ y) : CH σ q y := by
  rcases hy with rfl | ⟨o, ho, rfl, e⟩
  · exact ch_m σ q
  · refine ch_open h.wb (inn := σ.1 11 0) (fun b hb he => ?_) hc (B - o) o rfl ho e
    have e37 := h.2.1.2.2.2.2.2.1
    have e38 := h.2.1.2.2.2.2.2.2
    have a4 := h.1.2.2.2.2.2
    rw [e37] at he
    rcases h.2.2.2.2.2.2.2.2.2 b hb he with z | ⟨c, c1, c2, c3⟩
    · exact Or.inl (by rw [a4]; exact z)
    · exact Or.inr ⟨c, c1, by rw [e37]; exact c2, by rw [e38]; exact c3⟩
/-- a line that can be referred to holds here -/
theorem cx_line (h : VV F T L B O σ τ) (sn : SN L m σ) {q : Nat} (hq : q < 256) (hp : ∀ i, i < m → tl σ i q = true) (hc : CH σ q (σ.1 11 0)) {j : Nat} (hj : j < L) (ho : OB B σ (σ.1 33 j)) : tl σ j q = true :=
  sn j hj q hq hp (ch_ob h hc ho)
/-- a box that can be referred to: its end holds here if its assumption does -/
theorem cx_box (h : VV F T L B O σ τ) (sn : SN L m σ) (ce : CE L B σ) {q : Nat} (hq : q < 256) (hp : ∀ i, i < m → tl σ i q = true) (hc : CH σ q (σ.1 11 0)) {b i : Nat} (hb : b < B) (hi : i < L) (ei : σ.1 37 b = nI i) (ho : OB B σ (σ.1 38 b)) (ht : tl σ (σ.1 36 b).toNatClampNeg q = true) : tl σ i q = true := by
  refine sn i hi q hq hp ?_
  rw [ce b hb i hi ei, ch_b h.wb q hb]
  exact ⟨ht, ch_ob h hc ho⟩
theorem ln_tv (h : VV F T L B O σ τ) {j x : Nat} (A : LN σ τ j x) (q : Nat) : tl σ j q = tv σ x q := by
  unfold tl
  have := A.2.1
  rw [h.2.1.1, A.2.2.1, n_cl (by omega)]
/-- the truth of a formula by that of its parts -/
theorem tv_p (hf : RF F σ τ) (ht : TVf F σ) {f s : Nat} {l r : Int32} (hff : f < F) (Ff : FQ σ τ f s l r) {q : Nat} (hq : q < 256) :
    (s = 1 → tv σ f q = false) ∧ (s = 2 → ∀ p, p < 240 → l = nI p → tv σ f q = !tv σ p q) ∧ (s = 3 → ∀ p p2, p < 240 → p2 < 240 → l = nI p → r = nI p2 → tv σ f q = (tv σ p q && tv σ p2 q)) ∧
    (s = 4 → ∀ p p2, p < 240 → p2 < 240 → l = nI p → r = nI p2 → tv σ f q = (tv σ p q || tv σ p2 q)) ∧ (s = 5 → ∀ p p2, p < 240 → p2 < 240 → l = nI p → r = nI p2 → tv σ f q = (!tv σ p q || tv σ p2 q)) := by
  have hF := hf.le
  obtain ⟨f1, f2, f3, f4, f5, f6, f7, f8, f9⟩ := Ff
  obtain ⟨s', s5, e15, e12, ag⟩ := hf.st hff
  obtain ⟨_, e13, e14⟩ := hf.f3 f hff
  rw [f3, c_eq (by omega) (by omega)] at e15
  subst e15
  obtain ⟨t1, t2, t3, t4, t5⟩ := ht f hff q hq
  have two : ∀ p p2, 3 ≤ s → p < 240 → p2 < 240 → l = nI p → r = nI p2 → p < f ∧ p2 < f ∧ σ.1 13 f = nI p ∧ σ.1 14 f = nI p2 := fun p p2 h3 hp hp2 el er => by
    have x1 : τ.1 16 f = nI p := (f7 (by omega)).trans el
    have x2 : τ.1 17 f = nI p2 := f8.trans er
    rcases ag with ⟨h, _⟩ | ⟨h, _⟩ | ⟨h, _⟩ | ⟨_, _, a, b, ha, hb, y1, y2⟩
    · omega
    · omega
    · omega
    · rw [x1, c_eq (by omega) (by omega)] at y1
      rw [x2, c_eq (by omega) (by omega)] at y2
      exact ⟨by omega, by omega, e13.trans x1, e14.trans x2⟩
  refine ⟨fun h => t1 (by rw [e12, h]), fun h p hp el => ?_, fun h p p2 hp hp2 el er => ?_, fun h p p2 hp hp2 el er => ?_, fun h p p2 hp hp2 el er => ?_⟩
  · have x1 : τ.1 16 f = nI p := (f7 (by omega)).trans el
    have hpf : p < f := by
      rcases ag with ⟨h, _⟩ | ⟨h, _⟩ | ⟨_, a, ha, y1, _⟩ | ⟨h, _⟩
      · omega
      · omega
      · rw [x1, c_eq (by omega) (by omega)] at y1; omega
      · omega
    exact t2 (by rw [e12, h]) p hpf (e13.trans x1)
  · obtain ⟨a, b, c, d⟩ := two p p2 (by omega) hp hp2 el er
    exact t3 (by rw [e12, h]) p p2 a b c d
  · obtain ⟨a, b, c, d⟩ := two p p2 (by omega) hp hp2 el er
    exact t4 (by rw [e12, h]) p p2 a b c d
  · obtain ⟨a, b, c, d⟩ := two p p2 (by omega) hp hp2 el er
    exact t5 (by rw [e12, h]) p p2 a b c d
/-- THE RULES ARE SOUND -/
theorem step_sound (h : VV F T L B O σ τ) (hf : RF F σ τ) (hh : RH F T σ τ) (tt : TVf F σ) (sn : SN L m σ) (ce : CE L B σ) {r f : Nat} (hr : r ≤ 12) (hff : f < F) {a b c : Int32} (e : mX4_refusal σ (nI r) (nI f) a b c = some (nI 0, σ)) :
    ∀ q, q < 256 → (∀ i, i < m → tl σ i q = true) → CH σ q (σ.1 11 0) → tv σ f q = true := by
  intro q hq hp hc
  have hL : L ≤ 60 := h.2.2.2.1.1
  have h13 : ¬ r = 13 := by omega
  have hm : r = 13 → 0 ≤ 2 ∧ mX6_premises σ a = some (nI 0) := fun h => absurd h h13
  have q0 := x3_kind (s := σ) (r := r) (m := 0) (w := 0) (x := a) (by omega) (by omega) hm
  have q1 := x3_kind (s := σ) (r := r) (m := 0) (w := 1) (x := a) (by omega) (by omega) hm
  have q2 := x3_kind (s := σ) (r := r) (m := 0) (w := 2) (x := a) (by omega) (by omega) hm
  obtain ⟨c0, g0, _, _⟩ := reach_rel h hh (kdM_3 r 0 0 (by omega) (by omega)) a
  obtain ⟨c1, g1, _, _⟩ := reach_rel h hh (kdM_3 r 0 1 (by omega) (by omega)) b
  obtain ⟨c2, g2, _, _⟩ := reach_rel h hh (kdM_3 r 0 2 (by omega) (by omega)) c
  have ec := rf_c (p2 := nI f) q0 q1 q2 g0 g1 g2
  rw [e] at ec
  by_cases hcc : c0 = true ∧ c1 = true ∧ c2 = true
  · rw [if_pos hcc] at ec
    obtain ⟨rfl, rfl, rfl⟩ := hcc
    have ec := ec.symm
    have k2 : ∀ w, w < 3 → kdM r 0 w ≤ 2 := fun w hw => by unfold kdM; rw [if_neg h13]; exact kd_2 _ (by omega)
    have R0 := rg_of h (k2 0 (by omega)) g0
    have R1 := rg_of h (k2 1 (by omega)) g1
    have R2 := rg_of h (k2 2 (by omega)) g2
    obtain ⟨sf, l, rr, Ff⟩ := FQ.of hf hff
    have V := tv_p hf tt hff Ff hq
    have LT : ∀ j x, LN σ τ j x → j < L → OB B σ (σ.1 33 j) → tv σ x q = true := fun j x A hj ho => by rw [← ln_tv h A q]; exact cx_line h sn hq hp hc hj ho
    -- a box: its first line's formula, its last line's
    have BT : ∀ b i, b < B → i < L → σ.1 37 b = nI i → OB B σ (σ.1 38 b) → ∃ j xb xe, xb < F ∧ xe < F ∧ BX σ τ b j i xb xe ∧ (tv σ xb q = true → tv σ xe q = true) := fun b i hb hi ei ho => by
      have ei' : τ.1 26 b = nI i := by rw [← h.2.1.2.2.2.2.2.1]; exact ei
      obtain ⟨j, xb, xe, h1, h2, U⟩ := BX.of h hf hb hi ei'
      refine ⟨j, xb, xe, h1, h2, U, fun t => ?_⟩
      obtain ⟨⟨u1, u2, u3, u4, u5⟩, u6, u7, u8, u9, u10, u11⟩ := U
      have e36 : σ.1 36 b = nI j := by rw [h.2.1.2.2.2.2.1]; exact u6
      have tj : tl σ (σ.1 36 b).toNatClampNeg q = true := by
        rw [e36, n_cl (by omega)]
        unfold tl
        rw [h.2.1.1, u8, n_cl (by omega)]; exact t
      have ti := cx_box h sn ce hq hp hc hb hi ei ho tj
      unfold tl at ti
      rw [h.2.1.1, u9, n_cl (by omega)] at ti
      exact ti
    have hF := hf.le
    have hr13 : r = 0 ∨ r = 1 ∨ r = 2 ∨ r = 3 ∨ r = 4 ∨ r = 5 ∨ r = 6 ∨ r = 7 ∨ r = 8 ∨ r = 9 ∨ r = 10 ∨ r = 11 ∨ r = 12 := by omega
    rcases hr13 with rfl | rfl | rfl | rfl | rfl | rfl | rfl | rfl | rfl | rfl | rfl | rfl | rfl
    · obtain ⟨ja, h1, rfl, o1⟩ := R0.1 rfl
      obtain ⟨x, hx, A⟩ := LN.of h hf h1
      have e0 := rs_0 A Ff ec
      rw [← e0]; exact LT ja x A h1 o1
    · obtain ⟨ja, h1, rfl, o1⟩ := R0.1 rfl
      obtain ⟨x, hx, A⟩ := LN.of h hf h1
      obtain ⟨jb, h2, rfl, o2⟩ := R1.1 rfl
      obtain ⟨y, hy, Bb⟩ := LN.of h hf h2
      obtain ⟨e0, e1, e2⟩ := rs_1 A Bb Ff ec
      rw [V.2.2.1 e0 x y (by omega) (by omega) e1 e2, LT ja x A h1 o1, LT jb y Bb h2 o2]; rfl
    · obtain ⟨ja, h1, rfl, o1⟩ := R0.1 rfl
      obtain ⟨x, hx, A⟩ := LN.of h hf h1
      obtain ⟨sx, l', r', X⟩ := FQ.of hf hx
      obtain ⟨e0, e1⟩ := rs_2 A X Ff ec
      have VX := tv_p hf tt hx X hq
      rcases X.2.2.2.2.2.2.2.2 with ⟨z, _⟩ | ⟨z, _⟩ | ⟨_, p, p2, hp1, hp2, z1, z2⟩
      · omega
      · omega
      · have t := LT ja x A h1 o1
        rw [VX.2.2.1 e0 f p2 (by omega) hp2 e1 z2, Bool.and_eq_true] at t
        exact t.1
    · obtain ⟨ja, h1, rfl, o1⟩ := R0.1 rfl
      obtain ⟨x, hx, A⟩ := LN.of h hf h1
      obtain ⟨sx, l', r', X⟩ := FQ.of hf hx
      obtain ⟨e0, e1⟩ := rs_3 A X Ff ec
      have VX := tv_p hf tt hx X hq
      rcases X.2.2.2.2.2.2.2.2 with ⟨z, _⟩ | ⟨z, _⟩ | ⟨_, p, p2, hp1, hp2, z1, z2⟩
      · omega
      · omega
      · have t := LT ja x A h1 o1
        rw [VX.2.2.1 e0 p f hp1 (by omega) z1 e1, Bool.and_eq_true] at t
        exact t.2
    · obtain ⟨ja, h1, rfl, o1⟩ := R0.1 rfl
      obtain ⟨x, hx, A⟩ := LN.of h hf h1
      obtain ⟨e0, e1⟩ := rs_4 A Ff ec
      rcases Ff.2.2.2.2.2.2.2.2 with ⟨z, _⟩ | ⟨z, _⟩ | ⟨_, p, p2, hp1, hp2, z1, z2⟩
      · omega
      · omega
      · rw [V.2.2.2.1 e0 x p2 (by omega) hp2 e1 z2, LT ja x A h1 o1]; rfl
    · obtain ⟨ja, h1, rfl, o1⟩ := R0.1 rfl
      obtain ⟨x, hx, A⟩ := LN.of h hf h1
      obtain ⟨e0, e1⟩ := rs_5 A Ff ec
      rcases Ff.2.2.2.2.2.2.2.2 with ⟨z, _⟩ | ⟨z, _⟩ | ⟨_, p, p2, hp1, hp2, z1, z2⟩
      · omega
      · omega
      · rw [V.2.2.2.1 e0 p x hp1 (by omega) z1 e1, LT ja x A h1 o1, Bool.or_true]
    · obtain ⟨ja, h1, rfl, o1⟩ := R0.1 rfl
      obtain ⟨x, hx, A⟩ := LN.of h hf h1
      obtain ⟨sx, l', r', X⟩ := FQ.of hf hx
      obtain ⟨bb, ib, hb1, rfl, hb2, hb3, ob⟩ := R1.2 rfl
      obtain ⟨bc, ic, hc1, rfl, hc2, hc3, oc⟩ := R2.2 rfl
      obtain ⟨jb, xb, yb, hxb, hyb, U, tu⟩ := BT bb ib hb1 hb2 hb3 ob
      obtain ⟨jc, xc, yc, hxc, hyc, V', tv'⟩ := BT bc ic hc1 hc2 hc3 oc
      obtain ⟨e0, e1, e2, e3, e4⟩ := rs_6 A X Ff U V' ec
      have VX := tv_p hf tt hx X hq
      have t := LT ja x A h1 o1
      rw [VX.2.2.2.1 e0 xb xc (by omega) (by omega) e1 e3, Bool.or_eq_true] at t
      rcases t with t | t
      · rw [← e2]; exact tu t
      · rw [← e4]; exact tv' t
    · obtain ⟨bb, ib, hb1, rfl, hb2, hb3, ob⟩ := R0.2 rfl
      obtain ⟨jb, xb, yb, hxb, hyb, U, tu⟩ := BT bb ib hb1 hb2 hb3 ob
      obtain ⟨v, hv⟩ := fo_tot hL h.1.1 (nI bb)
      obtain ⟨e0, e1, e2⟩ := rs_7 U Ff hv ec
      rw [V.2.2.2.2 e0 xb yb (by omega) (by omega) e1 e2]
      cases ht : tv σ xb q
      · rfl
      · rw [tu ht]; rfl
    · obtain ⟨ja, h1, rfl, o1⟩ := R0.1 rfl
      obtain ⟨x, hx, A⟩ := LN.of h hf h1
      obtain ⟨jb, h2, rfl, o2⟩ := R1.1 rfl
      obtain ⟨y, hy, Bb⟩ := LN.of h hf h2
      obtain ⟨sx, l', r', X⟩ := FQ.of hf hx
      obtain ⟨e0, e1, e2⟩ := rs_8 A Bb X Ff ec
      have VX := tv_p hf tt hx X hq
      have t := LT ja x A h1 o1
      rw [VX.2.2.2.2 e0 y f (by omega) (by omega) e2 e1, LT jb y Bb h2 o2] at t
      exact t
    · obtain ⟨bb, ib, hb1, rfl, hb2, hb3, ob⟩ := R0.2 rfl
      obtain ⟨jb, xb, yb, hxb, hyb, U, tu⟩ := BT bb ib hb1 hb2 hb3 ob
      obtain ⟨v, hv⟩ := fo_tot hL h.1.1 (nI bb)
      obtain ⟨se, l', r', E⟩ := FQ.of hf hyb
      obtain ⟨e0, e1, e2⟩ := rs_9 U E Ff hv ec
      have VE := tv_p hf tt hyb E hq
      rw [V.2.1 e1 xb (by omega) e2]
      cases ht : tv σ xb q
      · rfl
      · have := tu ht
        rw [VE.1 e0] at this
        exact absurd this (by decide)
    · obtain ⟨ja, h1, rfl, o1⟩ := R0.1 rfl
      obtain ⟨x, hx, A⟩ := LN.of h hf h1
      obtain ⟨jb, h2, rfl, o2⟩ := R1.1 rfl
      obtain ⟨y, hy, Bb⟩ := LN.of h hf h2
      obtain ⟨sy, l', r', Y⟩ := FQ.of hf hy
      obtain ⟨e0, e1, e2⟩ := rs_10 A Bb Y Ff ec
      have VY := tv_p hf tt hy Y hq
      have t := LT jb y Bb h2 o2
      rw [VY.2.1 e0 x (by omega) e1, LT ja x A h1 o1] at t
      exact absurd t (by decide)
    · obtain ⟨ja, h1, rfl, o1⟩ := R0.1 rfl
      obtain ⟨x, hx, A⟩ := LN.of h hf h1
      obtain ⟨sx, l', r', X⟩ := FQ.of hf hx
      have e0 := rs_11 A X Ff ec
      have VX := tv_p hf tt hx X hq
      have t := LT ja x A h1 o1
      rw [VX.1 e0] at t
      exact absurd t (by decide)
    · obtain ⟨ja, h1, rfl, o1⟩ := R0.1 rfl
      obtain ⟨x, hx, A⟩ := LN.of h hf h1
      obtain ⟨sx, l', r', X⟩ := FQ.of hf hx
      obtain ⟨e0, p, hpF, e1, rp, P⟩ := rs_12 hf hx A X Ff ec
      have VX := tv_p hf tt hx X hq
      have VP := tv_p hf tt hpF P hq
      have t := LT ja x A h1 o1
      rw [VX.2.1 e0 p (by omega) e1, VP.2.1 rfl f (by omega) rfl, Bool.not_not] at t
      exact t
  · rw [if_neg hcc] at ec
    exact absurd (congrArg Prod.fst (Option.some.inj ec)) (show ¬ nI 0 = (1 : Int32) by decide)
end
