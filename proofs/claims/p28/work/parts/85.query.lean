theorem QV.pp {F T L B n O : Nat} {σ τ : St} (h : QV F T L B n O σ τ) : ∃ M, M ≤ 400 ∧ σ.1 5 0 = nI M := by
  obtain ⟨M, m1, m2, _⟩ := h.2.2.1
  exact ⟨M, m1, m2⟩
theorem GI.pp {F T L B n O m : Nat} {σ : St} (h : GI F T L B n O m σ) : ∃ M, M ≤ 400 ∧ σ.1 5 0 = nI M := by
  obtain ⟨τ, q, _⟩ := h
  exact q.pp
theorem GI.le {F T L B n O m : Nat} {σ : St} (h : GI F T L B n O m σ) : F ≤ 240 ∧ T ≤ 16 ∧ L ≤ 60 ∧ B ≤ 60 ∧ O ≤ 6 ∧ m ≤ 2 ∧ m ≤ L := by
  obtain ⟨τ, q, p, _⟩ := h
  have w := q.vv.wb
  exact ⟨q.1.le, q.2.2.2.1.1.1, w.1, w.2.1, q.vv.2.2.2.1.2.2, p.1, p.2.1⟩
theorem GI.lv {F T L B n O m M : Nat} {σ : St} (h : GI F T L B n O m σ) (hM : M ≤ 400) (h5 : σ.1 5 0 = nI M) : LV F T L B M σ σ := by
  obtain ⟨τ, q, _⟩ := h
  exact q.lv q rfl rfl hM h5 rfl rfl rfl rfl rfl rfl (fun _ _ => rfl) (fun _ _ => ⟨rfl, rfl, rfl⟩) (fun _ _ => ⟨rfl, rfl⟩) (fun _ _ => ⟨rfl, rfl, rfl⟩)
section
variable {F T L B n O m : Nat} {σ : St}
theorem qc_0 (h : GI F T L B n O m σ) : mX7_count σ 0 = some (nI F, σ) := by
  obtain ⟨τ, q, _⟩ := h
  have a := q.1.1.2.1
  simp (implicitDefEqProofs := false) (disch := omega) only [mX7_count, mX1_known, a, ↓bnd_e, ↓ob_s, ob_s, su_1, su_2, sl_1, sl_2, ↓ck_n, ck_n, ck_Z0, ck_Z1, c_lt, c_le, c_eq, ng_1, m_ne, m_en, m_lt, m_le, m_gt, m_ge, n_add, n_mul, n_sub, n_sm, n_pm, n_0m, n_cl, Nat.reduceEqDiff, ↓reduceIte, nle_T, nle_F, nlt_T, nlt_F, neq_F, neq_T, if_true, if_false, true_and, and_true, Nat.mul_zero, Nat.zero_add, Nat.add_zero, Nat.reduceAdd, Nat.reduceMul, Nat.reduceSub, li_0, li_1, li_2, li_3, li_4, li_5, li_6, li_7, li_8, li_9, li_10, li_11, li_12, li_13, li_14, li_15, li_16, li_20, li_24, li_28, li_31, li_35, li_38, li_40, li_41, li_45, li_48, li_60, li_62, li_63, li_97, li_100, li_104, li_105, li_120, li_124, li_127, li_180, li_239, li_240, li_255, li_256, li_300, li_400, li_960, li_1000000]
theorem qc_3 (h : GI F T L B n O m σ) : mX7_count σ 3 = some (nI L, σ) := by
  obtain ⟨τ, q, _⟩ := h
  have a := q.vv.1.1
  simp (implicitDefEqProofs := false) (disch := omega) only [mX7_count, mX3_lineCount, a, ↓bnd_e, ↓ob_s, ob_s, su_1, su_2, sl_1, sl_2, ↓ck_n, ck_n, ck_Z0, ck_Z1, c_lt, c_le, c_eq, ng_1, m_ne, m_en, m_lt, m_le, m_gt, m_ge, n_add, n_mul, n_sub, n_sm, n_pm, n_0m, n_cl, Nat.reduceEqDiff, ↓reduceIte, nle_T, nle_F, nlt_T, nlt_F, neq_F, neq_T, if_true, if_false, true_and, and_true, Nat.mul_zero, Nat.zero_add, Nat.add_zero, Nat.reduceAdd, Nat.reduceMul, Nat.reduceSub, li_0, li_1, li_2, li_3, li_4, li_5, li_6, li_7, li_8, li_9, li_10, li_11, li_12, li_13, li_14, li_15, li_16, li_20, li_24, li_28, li_31, li_35, li_38, li_40, li_41, li_45, li_48, li_60, li_62, li_63, li_97, li_100, li_104, li_105, li_120, li_124, li_127, li_180, li_239, li_240, li_255, li_256, li_300, li_400, li_960, li_1000000]
theorem qc_5 (h : GI F T L B n O m σ) : mX7_count σ 5 = some (nI O, σ) := by
  obtain ⟨τ, q, _⟩ := h
  have a := q.vv.1.2.2.2.2.1
  simp (implicitDefEqProofs := false) (disch := omega) only [mX7_count, mX3_openCount, mX0_open, a, ↓bnd_e, ↓ob_s, ob_s, su_1, su_2, sl_1, sl_2, ↓ck_n, ck_n, ck_Z0, ck_Z1, c_lt, c_le, c_eq, ng_1, m_ne, m_en, m_lt, m_le, m_gt, m_ge, n_add, n_mul, n_sub, n_sm, n_pm, n_0m, n_cl, Nat.reduceEqDiff, ↓reduceIte, nle_T, nle_F, nlt_T, nlt_F, neq_F, neq_T, if_true, if_false, true_and, and_true, Nat.mul_zero, Nat.zero_add, Nat.add_zero, Nat.reduceAdd, Nat.reduceMul, Nat.reduceSub, li_0, li_1, li_2, li_3, li_4, li_5, li_6, li_7, li_8, li_9, li_10, li_11, li_12, li_13, li_14, li_15, li_16, li_20, li_24, li_28, li_31, li_35, li_38, li_40, li_41, li_45, li_48, li_60, li_62, li_63, li_97, li_100, li_104, li_105, li_120, li_124, li_127, li_180, li_239, li_240, li_255, li_256, li_300, li_400, li_960, li_1000000]
theorem qc_6 (h : GI F T L B n O m σ) : mX7_count σ 6 = some (nI m, σ) := by
  obtain ⟨τ, q, p, _⟩ := h
  have a := x3_prem q.vv.wb.1 q.vv.1.1 q.vv.2.1.2.1 (q.pm p)
  simp (implicitDefEqProofs := false) (disch := omega) only [mX7_count, a, ↓bnd_e, ↓ob_s, ob_s, su_1, su_2, sl_1, sl_2, ↓ck_n, ck_n, ck_Z0, ck_Z1, c_lt, c_le, c_eq, ng_1, m_ne, m_en, m_lt, m_le, m_gt, m_ge, n_add, n_mul, n_sub, n_sm, n_pm, n_0m, n_cl, Nat.reduceEqDiff, ↓reduceIte, nle_T, nle_F, nlt_T, nlt_F, neq_F, neq_T, if_true, if_false, true_and, and_true, Nat.mul_zero, Nat.zero_add, Nat.add_zero, Nat.reduceAdd, Nat.reduceMul, Nat.reduceSub, li_0, li_1, li_2, li_3, li_4, li_5, li_6, li_7, li_8, li_9, li_10, li_11, li_12, li_13, li_14, li_15, li_16, li_20, li_24, li_28, li_31, li_35, li_38, li_40, li_41, li_45, li_48, li_60, li_62, li_63, li_97, li_100, li_104, li_105, li_120, li_124, li_127, li_180, li_239, li_240, li_255, li_256, li_300, li_400, li_960, li_1000000]
theorem qc_7 (h : GI F T L B n O m σ) : mX7_count σ 7 = some (nI T, σ) := by
  obtain ⟨τ, q, _⟩ := h
  have a := q.2.2.2.1.1.2.1
  simp (implicitDefEqProofs := false) (disch := omega) only [mX7_count, mX6_known, a, ↓bnd_e, ↓ob_s, ob_s, su_1, su_2, sl_1, sl_2, ↓ck_n, ck_n, ck_Z0, ck_Z1, c_lt, c_le, c_eq, ng_1, m_ne, m_en, m_lt, m_le, m_gt, m_ge, n_add, n_mul, n_sub, n_sm, n_pm, n_0m, n_cl, Nat.reduceEqDiff, ↓reduceIte, nle_T, nle_F, nlt_T, nlt_F, neq_F, neq_T, if_true, if_false, true_and, and_true, Nat.mul_zero, Nat.zero_add, Nat.add_zero, Nat.reduceAdd, Nat.reduceMul, Nat.reduceSub, li_0, li_1, li_2, li_3, li_4, li_5, li_6, li_7, li_8, li_9, li_10, li_11, li_12, li_13, li_14, li_15, li_16, li_20, li_24, li_28, li_31, li_35, li_38, li_40, li_41, li_45, li_48, li_60, li_62, li_63, li_97, li_100, li_104, li_105, li_120, li_124, li_127, li_180, li_239, li_240, li_255, li_256, li_300, li_400, li_960, li_1000000]
theorem q_need (h : GI F T L B n O m σ) : ∃ c σ', mX3_neededCount σ = some (nI c, σ') ∧ c ≤ L ∧ (0 < L → 0 < c) ∧ KE [34] σ σ' ∧ SC σ σ' ∧ ∀ j, j + 1 = L → σ'.1 34 j = nI 1 := by
  obtain ⟨M, m1, m2⟩ := h.pp
  obtain ⟨c1, s1, s2, b1, _, _, _, b5⟩ := w8_need (h.lv m1 m2)
  obtain ⟨τ, q, _⟩ := h
  obtain ⟨c, σ', τ', n1, n2, n3, n4, n5, n6, n7, n8⟩ := (q.vv.lq q.2.2.2.1).zi
  have e : σ' = s1 := congrArg Prod.snd (Option.some.inj (n1.symm.trans b1))
  exact ⟨c, σ', n1, n3, n8, n4, SC.m n4 n6, fun j hj => by rw [e]; exact b5 j hj⟩
theorem qc_8 (h : GI F T L B n O m σ) : ∃ c σ', mX7_count σ 8 = some (nI c, σ') ∧ c ≤ L ∧ SC σ σ' := by
  obtain ⟨c, σ', n1, n2, _, _, n4, _⟩ := q_need h
  exact ⟨c, σ', by simp (implicitDefEqProofs := false) (disch := omega) only [mX7_count, n1, ↓bnd_e, ↓ob_s, ob_s, su_1, su_2, sl_1, sl_2, ↓ck_n, ck_n, ck_Z0, ck_Z1, c_lt, c_le, c_eq, ng_1, m_ne, m_en, m_lt, m_le, m_gt, m_ge, n_add, n_mul, n_sub, n_sm, n_pm, n_0m, n_cl, Nat.reduceEqDiff, ↓reduceIte, nle_T, nle_F, nlt_T, nlt_F, neq_F, neq_T, if_true, if_false, true_and, and_true, Nat.mul_zero, Nat.zero_add, Nat.add_zero, Nat.reduceAdd, Nat.reduceMul, Nat.reduceSub, li_0, li_1, li_2, li_3, li_4, li_5, li_6, li_7, li_8, li_9, li_10, li_11, li_12, li_13, li_14, li_15, li_16, li_20, li_24, li_28, li_31, li_35, li_38, li_40, li_41, li_45, li_48, li_60, li_62, li_63, li_97, li_100, li_104, li_105, li_120, li_124, li_127, li_180, li_239, li_240, li_255, li_256, li_300, li_400, li_960, li_1000000], n2, n4⟩
theorem ql_0 (h : GI F T L B n O m σ) {j : Nat} (hj : j < L) : mX7_line σ (nI j) 0 = some (σ.1 29 j, σ) := by
  obtain ⟨τ, q, _⟩ := h
  have a := q.vv.1.1
  have hL := q.vv.wb.1
  simp (implicitDefEqProofs := false) (disch := omega) only [mX7_line, mX3_lineCount, mX3_formulaOf, a, ↓bnd_e, ↓ob_s, ob_s, su_1, su_2, sl_1, sl_2, ↓ck_n, ck_n, ck_Z0, ck_Z1, c_lt, c_le, c_eq, ng_1, m_ne, m_en, m_lt, m_le, m_gt, m_ge, n_add, n_mul, n_sub, n_sm, n_pm, n_0m, n_cl, Nat.reduceEqDiff, ↓reduceIte, nle_T, nle_F, nlt_T, nlt_F, neq_F, neq_T, if_true, if_false, true_and, and_true, Nat.mul_zero, Nat.zero_add, Nat.add_zero, Nat.reduceAdd, Nat.reduceMul, Nat.reduceSub, li_0, li_1, li_2, li_3, li_4, li_5, li_6, li_7, li_8, li_9, li_10, li_11, li_12, li_13, li_14, li_15, li_16, li_20, li_24, li_28, li_31, li_35, li_38, li_40, li_41, li_45, li_48, li_60, li_62, li_63, li_97, li_100, li_104, li_105, li_120, li_124, li_127, li_180, li_239, li_240, li_255, li_256, li_300, li_400, li_960, li_1000000]
theorem ql_1 (h : GI F T L B n O m σ) {j : Nat} (hj : j < L) : mX7_line σ (nI j) 1 = some (σ.1 30 j, σ) := by
  obtain ⟨τ, q, _⟩ := h
  have a := q.vv.1.1
  have hL := q.vv.wb.1
  simp (implicitDefEqProofs := false) (disch := omega) only [mX7_line, mX3_lineCount, mX3_ruleOf, a, ↓bnd_e, ↓ob_s, ob_s, su_1, su_2, sl_1, sl_2, ↓ck_n, ck_n, ck_Z0, ck_Z1, c_lt, c_le, c_eq, ng_1, m_ne, m_en, m_lt, m_le, m_gt, m_ge, n_add, n_mul, n_sub, n_sm, n_pm, n_0m, n_cl, Nat.reduceEqDiff, ↓reduceIte, nle_T, nle_F, nlt_T, nlt_F, neq_F, neq_T, if_true, if_false, true_and, and_true, Nat.mul_zero, Nat.zero_add, Nat.add_zero, Nat.reduceAdd, Nat.reduceMul, Nat.reduceSub, li_0, li_1, li_2, li_3, li_4, li_5, li_6, li_7, li_8, li_9, li_10, li_11, li_12, li_13, li_14, li_15, li_16, li_20, li_24, li_28, li_31, li_35, li_38, li_40, li_41, li_45, li_48, li_60, li_62, li_63, li_97, li_100, li_104, li_105, li_120, li_124, li_127, li_180, li_239, li_240, li_255, li_256, li_300, li_400, li_960, li_1000000]
theorem ql_5 (h : GI F T L B n O m σ) {j : Nat} (hj : j < L) : mX7_line σ (nI j) 5 = some (σ.1 33 j, σ) ∧ (σ.1 33 j = mI ∨ ∃ b, b < 60 ∧ σ.1 33 j = nI b) := by
  obtain ⟨τ, q, _⟩ := h
  have a := q.vv.1.1
  have w := q.vv.wb
  have hL := w.1
  refine ⟨by simp (implicitDefEqProofs := false) (disch := omega) only [mX7_line, mX3_lineCount, mX3_boxOf, a, ↓bnd_e, ↓ob_s, ob_s, su_1, su_2, sl_1, sl_2, ↓ck_n, ck_n, ck_Z0, ck_Z1, c_lt, c_le, c_eq, ng_1, m_ne, m_en, m_lt, m_le, m_gt, m_ge, n_add, n_mul, n_sub, n_sm, n_pm, n_0m, n_cl, Nat.reduceEqDiff, ↓reduceIte, nle_T, nle_F, nlt_T, nlt_F, neq_F, neq_T, if_true, if_false, true_and, and_true, Nat.mul_zero, Nat.zero_add, Nat.add_zero, Nat.reduceAdd, Nat.reduceMul, Nat.reduceSub, li_0, li_1, li_2, li_3, li_4, li_5, li_6, li_7, li_8, li_9, li_10, li_11, li_12, li_13, li_14, li_15, li_16, li_20, li_24, li_28, li_31, li_35, li_38, li_40, li_41, li_45, li_48, li_60, li_62, li_63, li_97, li_100, li_104, li_105, li_120, li_124, li_127, li_180, li_239, li_240, li_255, li_256, li_300, li_400, li_960, li_1000000], ?_⟩
  rcases q.vv.wl j hj with e | ⟨b, hb, e⟩
  · exact Or.inl e
  · exact Or.inr ⟨b, by have := w.2.1; omega, e⟩
theorem ql_7 {L : Nat} (h : GI F T (L + 1) B n O m σ) : ∃ σ', mX7_line σ (nI L) 7 = some (nI 1, σ') ∧ SC σ σ' := by
  obtain ⟨c, σ', n1, n2, n3, n4, n5, n6⟩ := q_need h
  have hL := h.le.2.2.1
  have c0 := n3 (by omega)
  have e34 := n6 L rfl
  obtain ⟨τ, q, _⟩ := h
  have a := q.vv.1.1
  have a' : σ'.1 8 0 = nI (L + 1) := by rw [n4 8 (by decide)]; exact a
  exact ⟨σ', by simp (implicitDefEqProofs := false) (disch := omega) only [mX7_line, mX3_lineCount, mX3_isNeeded, a, a', n1, e34, ↓bnd_e, ↓ob_s, ob_s, su_1, su_2, sl_1, sl_2, ↓ck_n, ck_n, ck_Z0, ck_Z1, c_lt, c_le, c_eq, ng_1, m_ne, m_en, m_lt, m_le, m_gt, m_ge, n_add, n_mul, n_sub, n_sm, n_pm, n_0m, n_cl, Nat.reduceEqDiff, ↓reduceIte, nle_T, nle_F, nlt_T, nlt_F, neq_F, neq_T, if_true, if_false, true_and, and_true, Nat.mul_zero, Nat.zero_add, Nat.add_zero, Nat.reduceAdd, Nat.reduceMul, Nat.reduceSub, li_0, li_1, li_2, li_3, li_4, li_5, li_6, li_7, li_8, li_9, li_10, li_11, li_12, li_13, li_14, li_15, li_16, li_20, li_24, li_28, li_31, li_35, li_38, li_40, li_41, li_45, li_48, li_60, li_62, li_63, li_97, li_100, li_104, li_105, li_120, li_124, li_127, li_180, li_239, li_240, li_255, li_256, li_300, li_400, li_960, li_1000000], n5⟩
/-- the formula of a line -/
theorem q_lf (h : GI F T L B n O m σ) {j : Nat} (hj : j < L) : ∃ f, f < F ∧ σ.1 29 j = nI f ∧ ∀ q, tl σ j q = tv σ f q := by
  obtain ⟨τ, q, _⟩ := h
  have hF := q.1.le
  obtain ⟨⟨f, f1, f2⟩, _⟩ := q.vv.2.2.2.2.1 j hj
  have e : σ.1 29 j = nI f := by rw [q.vv.2.1.1]; exact f2
  exact ⟨f, f1, e, fun z => by unfold tl; rw [e, n_cl (by omega)]⟩
theorem q_fails (h : GI F T L B n O m σ) {j : Nat} (hj : j < L) : mX7_fails σ (nI j) = some (nI 0) := by
  obtain ⟨τ, q, p, _, s, _⟩ := h
  exact no_fails q.vv q.1 (q.pm p) s hj
/-- a line in no box, of a proof without premises, is true for all -/
theorem q_taut (h : GI F T L B n O 0 σ) {j : Nat} (hj : j < L) (h33 : σ.1 33 j = mI) : ∀ q, q < 256 → tl σ j q = true := by
  obtain ⟨τ, q, p, _, s, _⟩ := h
  intro z hz
  exact s j hj z hz (fun i hi => absurd hi (by omega)) (by rw [h33]; exact ch_m σ z)
theorem qf_4 (h : GI F T L B n O m σ) {f : Nat} (hf : f < F) (ht : ∀ q, q < 256 → tv σ f q = true) : mX7_formula σ (nI f) 4 = some (nI 256) := by
  obtain ⟨τ, q, _⟩ := h
  have k1 := q.kn hf
  have e := x1_trueSets q.1 hf
  have e2 : bs (fun z => btL (σ.2 (4 * f + z / 64)) (z % 64)) 256 = 256 := bs_n 256 ht
  rw [e2] at e
  simp (implicitDefEqProofs := false) (disch := omega) only [mX7_formula, k1, e, ↓bnd_e, ↓ob_s, ob_s, su_1, su_2, sl_1, sl_2, ↓ck_n, ck_n, ck_Z0, ck_Z1, c_lt, c_le, c_eq, ng_1, m_ne, m_en, m_lt, m_le, m_gt, m_ge, n_add, n_mul, n_sub, n_sm, n_pm, n_0m, n_cl, Nat.reduceEqDiff, ↓reduceIte, nle_T, nle_F, nlt_T, nlt_F, neq_F, neq_T, if_true, if_false, true_and, and_true, Nat.mul_zero, Nat.zero_add, Nat.add_zero, Nat.reduceAdd, Nat.reduceMul, Nat.reduceSub, li_0, li_1, li_2, li_3, li_4, li_5, li_6, li_7, li_8, li_9, li_10, li_11, li_12, li_13, li_14, li_15, li_16, li_20, li_24, li_28, li_31, li_35, li_38, li_40, li_41, li_45, li_48, li_60, li_62, li_63, li_97, li_100, li_104, li_105, li_120, li_124, li_127, li_180, li_239, li_240, li_255, li_256, li_300, li_400, li_960, li_1000000]
theorem qf_0 (h : GI F T L B n O m σ) {f : Nat} (hf : f < F) : mX7_formula σ (nI f) 0 = some (σ.1 12 f) := by
  obtain ⟨τ, q, _⟩ := h
  have k1 := q.kn hf
  have e := x1_sort q.1.1.2.1 q.1.le hf
  simp (implicitDefEqProofs := false) (disch := omega) only [mX7_formula, k1, e, ↓bnd_e, ↓ob_s, ob_s, su_1, su_2, sl_1, sl_2, ↓ck_n, ck_n, ck_Z0, ck_Z1, c_lt, c_le, c_eq, ng_1, m_ne, m_en, m_lt, m_le, m_gt, m_ge, n_add, n_mul, n_sub, n_sm, n_pm, n_0m, n_cl, Nat.reduceEqDiff, ↓reduceIte, nle_T, nle_F, nlt_T, nlt_F, neq_F, neq_T, if_true, if_false, true_and, and_true, Nat.mul_zero, Nat.zero_add, Nat.add_zero, Nat.reduceAdd, Nat.reduceMul, Nat.reduceSub, li_0, li_1, li_2, li_3, li_4, li_5, li_6, li_7, li_8, li_9, li_10, li_11, li_12, li_13, li_14, li_15, li_16, li_20, li_24, li_28, li_31, li_35, li_38, li_40, li_41, li_45, li_48, li_60, li_62, li_63, li_97, li_100, li_104, li_105, li_120, li_124, li_127, li_180, li_239, li_240, li_255, li_256, li_300, li_400, li_960, li_1000000]
theorem qf_1 (h : GI F T L B n O m σ) {f : Nat} (hf : f < F) : mX7_formula σ (nI f) 1 = some (σ.1 13 f) := by
  obtain ⟨τ, q, _⟩ := h
  have k1 := q.kn hf
  have e := gn_first q.1.1.2.1 q.1.le hf
  simp (implicitDefEqProofs := false) (disch := omega) only [mX7_formula, k1, e, ↓bnd_e, ↓ob_s, ob_s, su_1, su_2, sl_1, sl_2, ↓ck_n, ck_n, ck_Z0, ck_Z1, c_lt, c_le, c_eq, ng_1, m_ne, m_en, m_lt, m_le, m_gt, m_ge, n_add, n_mul, n_sub, n_sm, n_pm, n_0m, n_cl, Nat.reduceEqDiff, ↓reduceIte, nle_T, nle_F, nlt_T, nlt_F, neq_F, neq_T, if_true, if_false, true_and, and_true, Nat.mul_zero, Nat.zero_add, Nat.add_zero, Nat.reduceAdd, Nat.reduceMul, Nat.reduceSub, li_0, li_1, li_2, li_3, li_4, li_5, li_6, li_7, li_8, li_9, li_10, li_11, li_12, li_13, li_14, li_15, li_16, li_20, li_24, li_28, li_31, li_35, li_38, li_40, li_41, li_45, li_48, li_60, li_62, li_63, li_97, li_100, li_104, li_105, li_120, li_124, li_127, li_180, li_239, li_240, li_255, li_256, li_300, li_400, li_960, li_1000000]
theorem qf_3 (h : GI F T L B n O m σ) {f : Nat} (hf : f < F) : mX7_formula σ (nI f) 3 = some (σ.1 15 f) := by
  obtain ⟨τ, q, _⟩ := h
  have k1 := q.kn hf
  have e := gn_letters q.1.1.2.1 q.1.le hf
  simp (implicitDefEqProofs := false) (disch := omega) only [mX7_formula, k1, e, ↓bnd_e, ↓ob_s, ob_s, su_1, su_2, sl_1, sl_2, ↓ck_n, ck_n, ck_Z0, ck_Z1, c_lt, c_le, c_eq, ng_1, m_ne, m_en, m_lt, m_le, m_gt, m_ge, n_add, n_mul, n_sub, n_sm, n_pm, n_0m, n_cl, Nat.reduceEqDiff, ↓reduceIte, nle_T, nle_F, nlt_T, nlt_F, neq_F, neq_T, if_true, if_false, true_and, and_true, Nat.mul_zero, Nat.zero_add, Nat.add_zero, Nat.reduceAdd, Nat.reduceMul, Nat.reduceSub, li_0, li_1, li_2, li_3, li_4, li_5, li_6, li_7, li_8, li_9, li_10, li_11, li_12, li_13, li_14, li_15, li_16, li_20, li_24, li_28, li_31, li_35, li_38, li_40, li_41, li_45, li_48, li_60, li_62, li_63, li_97, li_100, li_104, li_105, li_120, li_124, li_127, li_180, li_239, li_240, li_255, li_256, li_300, li_400, li_960, li_1000000]
/-- the checksum changes nothing but marks -/
theorem q_dig (h : GI F T L B n O m σ) : ∃ d σ', mX7_digest σ = some (d, σ') ∧ SC σ σ' := by
  obtain ⟨M, m1, m2⟩ := h.pp
  obtain ⟨d, s1, s2, b1, _, b3⟩ := w8_digest (h.lv m1 m2)
  exact ⟨d, s1, b1, SC.m b3.1 b3.2.2.1⟩
/-- what shows the same has the same checksum -/
theorem q_dig2 {M : Nat} {s σ' : St} {d : Int64} (h : LV F T L B M σ s) (e : mX7_digest σ = some (d, σ')) : ∃ s', mX7_digest s = some (d, s') ∧ SC s s' := by
  obtain ⟨d', s1, s2, b1, b2, b3⟩ := w8_digest h
  rw [e] at b1
  have ed : d = d' := congrArg Prod.fst (Option.some.inj b1)
  subst ed
  exact ⟨s2, b2, SC.m b3.2.1 b3.2.2.2⟩
end
