theorem refusal_12 {F T L B O : Nat} {σ τ : St} (h : VV F T L B O σ τ) (hf : RF F σ τ) (hh : RH F T σ τ) {r f : Nat} (hr12 : r ≤ 12) (hff : f < F) (a b c : Int32) :
    ∃ why, why ≤ 3 ∧ mX4_refusal σ (nI r) (nI f) a b c = some (nI why, σ) ∧ mX8_refusal τ (nI r) (nI f) a b c = some (nI why, τ) := by
  have hT := hh.1.1
  have h10 := hh.1.2.2
  have h13 : ¬ r = 13 := by omega
  obtain ⟨N, n0, n1, n2, n3, n4⟩ := x8_needs hT h10 (r := r) (by omega) (x := a) (fun h => absurd h h13)
  have eK : ∀ w, kdN τ.1 r a.toNatClampNeg w = kdM r 0 w := fun w => by
    unfold kdN kdM
    rw [if_neg h13, if_neg h13]
  rw [eK] at n2 n3 n4
  obtain ⟨d1, d2, d3⟩ := nd_dig n0
  rw [n2] at d1; rw [n3] at d2; rw [n4] at d3
  have hm : r = 13 → 0 ≤ 2 ∧ mX6_premises σ a = some (nI 0) := fun h => absurd h h13
  have q0 := x3_kind (s := σ) (r := r) (m := 0) (w := 0) (x := a) (by omega) (by omega) hm
  have q1 := x3_kind (s := σ) (r := r) (m := 0) (w := 1) (x := a) (by omega) (by omega) hm
  have q2 := x3_kind (s := σ) (r := r) (m := 0) (w := 2) (x := a) (by omega) (by omega) hm
  obtain ⟨c0, g0, g0', G0⟩ := reach_rel h hh (kdM_3 r 0 0 (by omega) (by omega)) a
  obtain ⟨c1, g1, g1', G1⟩ := reach_rel h hh (kdM_3 r 0 1 (by omega) (by omega)) b
  obtain ⟨c2, g2, g2', G2⟩ := reach_rel h hh (kdM_3 r 0 2 (by omega) (by omega)) c
  have ec := rf_c (p2 := nI f) q0 q1 q2 g0 g1 g2
  have em := rf_m (p2 := nI f) n1 d1 d2 d3 g0' g1' g2'
  by_cases hc : c0 = true ∧ c1 = true ∧ c2 = true
  · rw [if_pos hc] at ec em
    obtain ⟨k1, k2, k3⟩ := hc
    obtain ⟨why, w1, w2, w3⟩ := rules_rel h hf hr12 hff (G0 k1) (G1 k2) (G2 k3) d2
    exact ⟨why, w1, ec.trans w2, em.trans w3⟩
  · rw [if_neg hc] at ec em
    exact ⟨1, by omega, ec, em⟩
/-- no refusal means that the parts of the look all say yes -/
theorem fits_of {F T L B O : Nat} {σ τ : St} (h : VV F T L B O σ τ) (hh : RH F T σ τ) {r f : Nat} (hr12 : r ≤ 12) {a b c : Int32} (e : mX4_refusal σ (nI r) (nI f) a b c = some (nI 0, σ)) :
    mX4_reaches σ (nI (kdM r 0 0)) a = some (zB true) ∧ mX4_reaches σ (nI (kdM r 0 1)) b = some (zB true) ∧ (∃ v, mX4_firstFits σ (nI r) (nI f) a = some v ∧ ¬ v = 0) ∧ ∃ v, mX4_secondFits σ (nI r) (nI f) a b = some v ∧ ¬ v = 0 := by
  have h13 : ¬ r = 13 := by omega
  have hm : r = 13 → 0 ≤ 2 ∧ mX6_premises σ a = some (nI 0) := fun h => absurd h h13
  have q0 := x3_kind (s := σ) (r := r) (m := 0) (w := 0) (x := a) (by omega) (by omega) hm
  have q1 := x3_kind (s := σ) (r := r) (m := 0) (w := 1) (x := a) (by omega) (by omega) hm
  have q2 := x3_kind (s := σ) (r := r) (m := 0) (w := 2) (x := a) (by omega) (by omega) hm
  obtain ⟨c0, g0, _, _⟩ := reach_rel h hh (kdM_3 r 0 0 (by omega) (by omega)) a
  obtain ⟨c1, g1, _, _⟩ := reach_rel h hh (kdM_3 r 0 1 (by omega) (by omega)) b
  obtain ⟨c2, g2, _, _⟩ := reach_rel h hh (kdM_3 r 0 2 (by omega) (by omega)) c
  have ec := rf_c (p2 := nI f) q0 q1 q2 g0 g1 g2
  rw [e] at ec
  by_cases hc : c0 = true ∧ c1 = true ∧ c2 = true
  · rw [if_pos hc] at ec
    obtain ⟨rfl, rfl, rfl⟩ := hc
    have ec' := ec.symm
    unfold cT at ec'
    obtain ⟨z, hz, e1⟩ := ok_bind ec'
    by_cases z0 : z = 0
    · rw [if_pos z0] at e1
      exact absurd (congrArg Prod.fst (Option.some.inj e1)) (show ¬ (2 : Int32) = nI 0 by decide)
    · rw [if_neg z0, if_neg (show ¬ nI r = 13 by rw [show (13 : Int32) = nI 13 from rfl, c_eq (by omega) (by omega)]; exact h13)] at e1
      obtain ⟨y, hy, e2⟩ := ok_bind e1
      by_cases y0 : y = 0
      · rw [if_pos y0] at e2
        exact absurd (congrArg Prod.fst (Option.some.inj e2)) (show ¬ (3 : Int32) = nI 0 by decide)
      · rw [if_neg y0] at e2
        obtain ⟨x, hx, e3⟩ := ok_bind e2
        by_cases x0 : x = 0
        · rw [if_pos x0] at e3
          exact absurd (congrArg Prod.fst (Option.some.inj e3)) (show ¬ (3 : Int32) = nI 0 by decide)
        · exact ⟨g0, g1, ⟨y, hy, y0⟩, x, hx, x0⟩
  · rw [if_neg hc] at ec
    exact absurd (congrArg Prod.fst (Option.some.inj ec)) (show ¬ nI 0 = (1 : Int32) by decide)
theorem isS_ite {α : Type} {c : Prop} [Decidable c] {a b : Option α} (ha : ∃ v, a = some v) (hb : ∃ v, b = some v) : ∃ v, (if c then a else b) = some v := by
  by_cases h : c
  · rw [if_pos h]; exact ha
  · rw [if_neg h]; exact hb
theorem so_tot {σ : St} {F : Nat} (hF : F ≤ 240) (h0 : σ.1 0 0 = nI F) (x : Int32) : ∃ v, mX1_sort σ x = some v := by
  rcases g1_sort hF h0 x with ⟨_, _, _, h⟩ | h <;> exact ⟨_, h⟩
theorem le_tot {σ : St} {F : Nat} (hF : F ≤ 240) (h0 : σ.1 0 0 = nI F) (x : Int32) : ∃ v, mX1_left σ x = some v := by
  rcases ix3 x F (by omega) with ⟨h, h'⟩ | ⟨h, h', _⟩ | ⟨j, hj, rfl⟩
  · exact ⟨mI, by simp (implicitDefEqProofs := false) (disch := omega) only [mX1_left, h, ↓bnd_e, ↓ob_s, ob_s, su_1, su_2, sl_1, sl_2, ↓ck_n, ck_n, ck_Z0, ck_Z1, c_lt, c_le, c_eq, ng_1, m_ne, m_en, m_lt, m_le, m_gt, m_ge, n_add, n_mul, n_sub, n_sm, n_pm, n_0m, n_cl, Nat.reduceEqDiff, ↓reduceIte, nle_T, nle_F, nlt_T, nlt_F, neq_F, neq_T, if_true, if_false, true_and, and_true, Nat.mul_zero, Nat.zero_add, Nat.add_zero, Nat.reduceAdd, Nat.reduceMul, Nat.reduceSub, li_0, li_1, li_2, li_3, li_4, li_5, li_6, li_7, li_8, li_9, li_10, li_11, li_12, li_13, li_14, li_15, li_16, li_20, li_24, li_28, li_31, li_35, li_38, li_40, li_41, li_45, li_48, li_60, li_62, li_63, li_97, li_100, li_104, li_105, li_120, li_124, li_127, li_180, li_239, li_240, li_255, li_256, li_300, li_400, li_960, li_1000000]⟩
  · exact ⟨mI, by simp (implicitDefEqProofs := false) (disch := omega) only [mX1_left, h0, h, h', ↓bnd_e, ↓ob_s, ob_s, su_1, su_2, sl_1, sl_2, ↓ck_n, ck_n, ck_Z0, ck_Z1, c_lt, c_le, c_eq, ng_1, m_ne, m_en, m_lt, m_le, m_gt, m_ge, n_add, n_mul, n_sub, n_sm, n_pm, n_0m, n_cl, Nat.reduceEqDiff, ↓reduceIte, nle_T, nle_F, nlt_T, nlt_F, neq_F, neq_T, if_true, if_false, true_and, and_true, Nat.mul_zero, Nat.zero_add, Nat.add_zero, Nat.reduceAdd, Nat.reduceMul, Nat.reduceSub, li_0, li_1, li_2, li_3, li_4, li_5, li_6, li_7, li_8, li_9, li_10, li_11, li_12, li_13, li_14, li_15, li_16, li_20, li_24, li_28, li_31, li_35, li_38, li_40, li_41, li_45, li_48, li_60, li_62, li_63, li_97, li_100, li_104, li_105, li_120, li_124, li_127, li_180, li_239, li_240, li_255, li_256, li_300, li_400, li_960, li_1000000]⟩
  · unfold mX1_left
    rw [if_neg (nI_pos (by omega)), h0, if_neg (by rw [c_le (by omega) (by omega)]; omega), ck_n _ (by omega) (by omega), ck_n _ (by omega) (by omega)]
    split <;> exact ⟨_, rfl⟩
theorem se_tot {σ : St} {F : Nat} (hF : F ≤ 240) (h0 : σ.1 0 0 = nI F) (x : Int32) : ∃ v, mX1_second σ x = some v := by
  rcases ix3 x F (by omega) with ⟨h, h'⟩ | ⟨h, h', _⟩ | ⟨j, hj, rfl⟩
  · exact ⟨mI, by simp (implicitDefEqProofs := false) (disch := omega) only [mX1_second, h, ↓bnd_e, ↓ob_s, ob_s, su_1, su_2, sl_1, sl_2, ↓ck_n, ck_n, ck_Z0, ck_Z1, c_lt, c_le, c_eq, ng_1, m_ne, m_en, m_lt, m_le, m_gt, m_ge, n_add, n_mul, n_sub, n_sm, n_pm, n_0m, n_cl, Nat.reduceEqDiff, ↓reduceIte, nle_T, nle_F, nlt_T, nlt_F, neq_F, neq_T, if_true, if_false, true_and, and_true, Nat.mul_zero, Nat.zero_add, Nat.add_zero, Nat.reduceAdd, Nat.reduceMul, Nat.reduceSub, li_0, li_1, li_2, li_3, li_4, li_5, li_6, li_7, li_8, li_9, li_10, li_11, li_12, li_13, li_14, li_15, li_16, li_20, li_24, li_28, li_31, li_35, li_38, li_40, li_41, li_45, li_48, li_60, li_62, li_63, li_97, li_100, li_104, li_105, li_120, li_124, li_127, li_180, li_239, li_240, li_255, li_256, li_300, li_400, li_960, li_1000000]⟩
  · exact ⟨mI, by simp (implicitDefEqProofs := false) (disch := omega) only [mX1_second, h0, h, h', ↓bnd_e, ↓ob_s, ob_s, su_1, su_2, sl_1, sl_2, ↓ck_n, ck_n, ck_Z0, ck_Z1, c_lt, c_le, c_eq, ng_1, m_ne, m_en, m_lt, m_le, m_gt, m_ge, n_add, n_mul, n_sub, n_sm, n_pm, n_0m, n_cl, Nat.reduceEqDiff, ↓reduceIte, nle_T, nle_F, nlt_T, nlt_F, neq_F, neq_T, if_true, if_false, true_and, and_true, Nat.mul_zero, Nat.zero_add, Nat.add_zero, Nat.reduceAdd, Nat.reduceMul, Nat.reduceSub, li_0, li_1, li_2, li_3, li_4, li_5, li_6, li_7, li_8, li_9, li_10, li_11, li_12, li_13, li_14, li_15, li_16, li_20, li_24, li_28, li_31, li_35, li_38, li_40, li_41, li_45, li_48, li_60, li_62, li_63, li_97, li_100, li_104, li_105, li_120, li_124, li_127, li_180, li_239, li_240, li_255, li_256, li_300, li_400, li_960, li_1000000]⟩
  · exact ⟨σ.1 14 j, by simp (implicitDefEqProofs := false) (disch := omega) only [mX1_second, h0, ↓bnd_e, ↓ob_s, ob_s, su_1, su_2, sl_1, sl_2, ↓ck_n, ck_n, ck_Z0, ck_Z1, c_lt, c_le, c_eq, ng_1, m_ne, m_en, m_lt, m_le, m_gt, m_ge, n_add, n_mul, n_sub, n_sm, n_pm, n_0m, n_cl, Nat.reduceEqDiff, ↓reduceIte, nle_T, nle_F, nlt_T, nlt_F, neq_F, neq_T, if_true, if_false, true_and, and_true, Nat.mul_zero, Nat.zero_add, Nat.add_zero, Nat.reduceAdd, Nat.reduceMul, Nat.reduceSub, li_0, li_1, li_2, li_3, li_4, li_5, li_6, li_7, li_8, li_9, li_10, li_11, li_12, li_13, li_14, li_15, li_16, li_20, li_24, li_28, li_31, li_35, li_38, li_40, li_41, li_45, li_48, li_60, li_62, li_63, li_97, li_100, li_104, li_105, li_120, li_124, li_127, li_180, li_239, li_240, li_255, li_256, li_300, li_400, li_960, li_1000000]⟩
theorem be_tot {σ : St} {L B : Nat} (hL : L ≤ 60) (hB : B ≤ 60) (a8 : σ.1 8 0 = nI L) (a1 : σ.1 9 0 = nI B) (x : Int32) : ∃ v, mX3_beginOf σ x = some v := by
  have : ∃ v, mX0_first σ x = some v := by
    rcases ix3 x B (by omega) with ⟨h, h'⟩ | ⟨h, h', _⟩ | ⟨j, hj, rfl⟩
    · exact ⟨mI, by simp (implicitDefEqProofs := false) (disch := omega) only [mX0_first, h, ↓bnd_e, ↓ob_s, ob_s, su_1, su_2, sl_1, sl_2, ↓ck_n, ck_n, ck_Z0, ck_Z1, c_lt, c_le, c_eq, ng_1, m_ne, m_en, m_lt, m_le, m_gt, m_ge, n_add, n_mul, n_sub, n_sm, n_pm, n_0m, n_cl, Nat.reduceEqDiff, ↓reduceIte, nle_T, nle_F, nlt_T, nlt_F, neq_F, neq_T, if_true, if_false, true_and, and_true, Nat.mul_zero, Nat.zero_add, Nat.add_zero, Nat.reduceAdd, Nat.reduceMul, Nat.reduceSub, li_0, li_1, li_2, li_3, li_4, li_5, li_6, li_7, li_8, li_9, li_10, li_11, li_12, li_13, li_14, li_15, li_16, li_20, li_24, li_28, li_31, li_35, li_38, li_40, li_41, li_45, li_48, li_60, li_62, li_63, li_97, li_100, li_104, li_105, li_120, li_124, li_127, li_180, li_239, li_240, li_255, li_256, li_300, li_400, li_960, li_1000000]⟩
    · exact ⟨mI, by simp (implicitDefEqProofs := false) (disch := omega) only [mX0_first, a1, h, h', ↓bnd_e, ↓ob_s, ob_s, su_1, su_2, sl_1, sl_2, ↓ck_n, ck_n, ck_Z0, ck_Z1, c_lt, c_le, c_eq, ng_1, m_ne, m_en, m_lt, m_le, m_gt, m_ge, n_add, n_mul, n_sub, n_sm, n_pm, n_0m, n_cl, Nat.reduceEqDiff, ↓reduceIte, nle_T, nle_F, nlt_T, nlt_F, neq_F, neq_T, if_true, if_false, true_and, and_true, Nat.mul_zero, Nat.zero_add, Nat.add_zero, Nat.reduceAdd, Nat.reduceMul, Nat.reduceSub, li_0, li_1, li_2, li_3, li_4, li_5, li_6, li_7, li_8, li_9, li_10, li_11, li_12, li_13, li_14, li_15, li_16, li_20, li_24, li_28, li_31, li_35, li_38, li_40, li_41, li_45, li_48, li_60, li_62, li_63, li_97, li_100, li_104, li_105, li_120, li_124, li_127, li_180, li_239, li_240, li_255, li_256, li_300, li_400, li_960, li_1000000]⟩
    · exact ⟨σ.1 36 j, by simp (implicitDefEqProofs := false) (disch := omega) only [mX0_first, a1, ↓bnd_e, ↓ob_s, ob_s, su_1, su_2, sl_1, sl_2, ↓ck_n, ck_n, ck_Z0, ck_Z1, c_lt, c_le, c_eq, ng_1, m_ne, m_en, m_lt, m_le, m_gt, m_ge, n_add, n_mul, n_sub, n_sm, n_pm, n_0m, n_cl, Nat.reduceEqDiff, ↓reduceIte, nle_T, nle_F, nlt_T, nlt_F, neq_F, neq_T, if_true, if_false, true_and, and_true, Nat.mul_zero, Nat.zero_add, Nat.add_zero, Nat.reduceAdd, Nat.reduceMul, Nat.reduceSub, li_0, li_1, li_2, li_3, li_4, li_5, li_6, li_7, li_8, li_9, li_10, li_11, li_12, li_13, li_14, li_15, li_16, li_20, li_24, li_28, li_31, li_35, li_38, li_40, li_41, li_45, li_48, li_60, li_62, li_63, li_97, li_100, li_104, li_105, li_120, li_124, li_127, li_180, li_239, li_240, li_255, li_256, li_300, li_400, li_960, li_1000000]⟩
  obtain ⟨v, hv⟩ := this
  obtain ⟨u, hu⟩ := fo_tot hL a8 v
  exact ⟨u, by unfold mX3_beginOf; rw [hv, ob_s, hu, ob_s]⟩
theorem en_tot {σ : St} {L B : Nat} (hL : L ≤ 60) (hB : B ≤ 60) (a8 : σ.1 8 0 = nI L) (a1 : σ.1 9 0 = nI B) (x : Int32) : ∃ v, mX3_endOf σ x = some v := by
  have : ∃ v, mX0_last σ x = some v := by
    rcases ix3 x B (by omega) with ⟨h, h'⟩ | ⟨h, h', _⟩ | ⟨j, hj, rfl⟩
    · exact ⟨mI, by simp (implicitDefEqProofs := false) (disch := omega) only [mX0_last, h, ↓bnd_e, ↓ob_s, ob_s, su_1, su_2, sl_1, sl_2, ↓ck_n, ck_n, ck_Z0, ck_Z1, c_lt, c_le, c_eq, ng_1, m_ne, m_en, m_lt, m_le, m_gt, m_ge, n_add, n_mul, n_sub, n_sm, n_pm, n_0m, n_cl, Nat.reduceEqDiff, ↓reduceIte, nle_T, nle_F, nlt_T, nlt_F, neq_F, neq_T, if_true, if_false, true_and, and_true, Nat.mul_zero, Nat.zero_add, Nat.add_zero, Nat.reduceAdd, Nat.reduceMul, Nat.reduceSub, li_0, li_1, li_2, li_3, li_4, li_5, li_6, li_7, li_8, li_9, li_10, li_11, li_12, li_13, li_14, li_15, li_16, li_20, li_24, li_28, li_31, li_35, li_38, li_40, li_41, li_45, li_48, li_60, li_62, li_63, li_97, li_100, li_104, li_105, li_120, li_124, li_127, li_180, li_239, li_240, li_255, li_256, li_300, li_400, li_960, li_1000000]⟩
    · exact ⟨mI, by simp (implicitDefEqProofs := false) (disch := omega) only [mX0_last, a1, h, h', ↓bnd_e, ↓ob_s, ob_s, su_1, su_2, sl_1, sl_2, ↓ck_n, ck_n, ck_Z0, ck_Z1, c_lt, c_le, c_eq, ng_1, m_ne, m_en, m_lt, m_le, m_gt, m_ge, n_add, n_mul, n_sub, n_sm, n_pm, n_0m, n_cl, Nat.reduceEqDiff, ↓reduceIte, nle_T, nle_F, nlt_T, nlt_F, neq_F, neq_T, if_true, if_false, true_and, and_true, Nat.mul_zero, Nat.zero_add, Nat.add_zero, Nat.reduceAdd, Nat.reduceMul, Nat.reduceSub, li_0, li_1, li_2, li_3, li_4, li_5, li_6, li_7, li_8, li_9, li_10, li_11, li_12, li_13, li_14, li_15, li_16, li_20, li_24, li_28, li_31, li_35, li_38, li_40, li_41, li_45, li_48, li_60, li_62, li_63, li_97, li_100, li_104, li_105, li_120, li_124, li_127, li_180, li_239, li_240, li_255, li_256, li_300, li_400, li_960, li_1000000]⟩
    · exact ⟨σ.1 37 j, by simp (implicitDefEqProofs := false) (disch := omega) only [mX0_last, a1, ↓bnd_e, ↓ob_s, ob_s, su_1, su_2, sl_1, sl_2, ↓ck_n, ck_n, ck_Z0, ck_Z1, c_lt, c_le, c_eq, ng_1, m_ne, m_en, m_lt, m_le, m_gt, m_ge, n_add, n_mul, n_sub, n_sm, n_pm, n_0m, n_cl, Nat.reduceEqDiff, ↓reduceIte, nle_T, nle_F, nlt_T, nlt_F, neq_F, neq_T, if_true, if_false, true_and, and_true, Nat.mul_zero, Nat.zero_add, Nat.add_zero, Nat.reduceAdd, Nat.reduceMul, Nat.reduceSub, li_0, li_1, li_2, li_3, li_4, li_5, li_6, li_7, li_8, li_9, li_10, li_11, li_12, li_13, li_14, li_15, li_16, li_20, li_24, li_28, li_31, li_35, li_38, li_40, li_41, li_45, li_48, li_60, li_62, li_63, li_97, li_100, li_104, li_105, li_120, li_124, li_127, li_180, li_239, li_240, li_255, li_256, li_300, li_400, li_960, li_1000000]⟩
  obtain ⟨v, hv⟩ := this
  obtain ⟨u, hu⟩ := fo_tot hL a8 v
  exact ⟨u, by unfold mX3_endOf; rw [hv, ob_s, hu, ob_s]⟩
theorem ff_tot {σ : St} {F L B : Nat} (hF : F ≤ 240) (h0 : σ.1 0 0 = nI F) (hL : L ≤ 60) (hB : B ≤ 60) (a8 : σ.1 8 0 = nI L) (a1 : σ.1 9 0 = nI B) (p1 p2 p3 : Int32) : ∃ v, mX4_firstFits σ p1 p2 p3 = some v := by
  obtain ⟨v1, e1⟩ := so_tot hF h0 p2
  obtain ⟨v2, e2⟩ := fo_tot hL a8 p3
  obtain ⟨v3, e3⟩ := le_tot hF h0 p2
  obtain ⟨v4, e4⟩ := le_tot hF h0 v2
  obtain ⟨v5, e5⟩ := se_tot hF h0 v2
  obtain ⟨v6, e6⟩ := se_tot hF h0 p2
  obtain ⟨v7, e7⟩ := be_tot hL hB a8 a1 p3
  obtain ⟨v8, e8⟩ := en_tot hL hB a8 a1 p3
  obtain ⟨v9, e9⟩ := le_tot hF h0 v4
  unfold mX4_firstFits
  simp only [e1, e2, e3, e4, e5, e6, e7, e8, e9, ob_s]
  repeat' (first | exact ⟨_, rfl⟩ | refine isS_ite ?_ ?_)
theorem sf_tot {σ : St} {F L B : Nat} (hF : F ≤ 240) (h0 : σ.1 0 0 = nI F) (hL : L ≤ 60) (hB : B ≤ 60) (a8 : σ.1 8 0 = nI L) (a1 : σ.1 9 0 = nI B) (p1 p2 p3 p4 : Int32) : ∃ v, mX4_secondFits σ p1 p2 p3 p4 = some v := by
  obtain ⟨v1, e1⟩ := se_tot hF h0 p2
  obtain ⟨v2, e2⟩ := fo_tot hL a8 p3
  obtain ⟨v3, e3⟩ := fo_tot hL a8 p4
  obtain ⟨v4, e4⟩ := le_tot hF h0 v2
  obtain ⟨v5, e5⟩ := le_tot hF h0 v3
  obtain ⟨v7, e7⟩ := be_tot hL hB a8 a1 p4
  obtain ⟨v8, e8⟩ := en_tot hL hB a8 a1 p4
  unfold mX4_secondFits
  simp only [e1, e2, e3, e4, e5, e7, e8, ob_s]
  repeat' (first | exact ⟨_, rfl⟩ | refine isS_ite ?_ ?_)
/-- the first that is there -/
def scanO {α : Type} (g : Nat → Option α) : Nat → Nat → Option α
  | 0, _ => none
  | d + 1, k => match g k with
    | some x => some x
    | none => scanO g d (k + 1)
theorem scanO_n {α : Type} {g : Nat → Option α} (h : ∀ k, g k = none) : ∀ d k, scanO g d k = none := by
  intro d
  induction d with
  | zero => intro k; rfl
  | succ d ih => intro k; unfold scanO; rw [h k]; exact ih (k + 1)
theorem scanO_1 {α : Type} {g : Nat → Option α} {d k : Nat} {x : α} (h : g k = some x) : scanO g (d + 1) k = some x := by unfold scanO; rw [h]
theorem scanO_0 {α : Type} {g : Nat → Option α} {d k : Nat} (h : g k = none) : scanO g (d + 1) k = scanO g d (k + 1) := by
  show (match g k with | some x => some x | none => scanO g d (k + 1)) = _
  rw [h]
abbrev Q4 : Type := Nat × Nat × Nat × Nat
def gC (W : Nat → Nat → Nat → Nat → Nat) (r a b c : Nat) : Option Q4 := if W r a b c = 0 then some (r, a, b, c) else none
def gB (W : Nat → Nat → Nat → Nat → Nat) (r n2 a b : Nat) : Option Q4 := scanO (gC W r a b) n2 0
def gA (W : Nat → Nat → Nat → Nat → Nat) (r n1 n2 a : Nat) : Option Q4 := scanO (gB W r n2 a) n1 0
def oC (σ : St) (o : Option Q4) (e : Option (Int32 × St)) : Option (Int32 × St) := match o with | some x => mX4_search_119 σ (nI x.1) (nI x.2.1) (nI x.2.2.1) (nI x.2.2.2) | none => e
def oM (τ : St) (o : Option Q4) (e : Option (Int32 × St)) : Option (Int32 × St) := match o with | some x => mX8_findHint_83 τ (nI x.1) (nI x.2.1) (nI x.2.2.1) (nI x.2.2.2) | none => e
def cnt (L B k : Nat) : Nat := if k = 1 then L else if k = 2 then B else 1
theorem cnt_60 {L B : Nat} (hL : L ≤ 60) (hB : B ≤ 60) (k : Nat) : cnt L B k ≤ 60 := by
  unfold cnt
  by_cases h1 : k = 1
  · rw [if_pos h1]; exact hL
  · rw [if_neg h1]
    by_cases h2 : k = 2
    · rw [if_pos h2]; exact hB
    · rw [if_neg h2]; omega
theorem kd_2 : ∀ i, i < 39 → KT.getD i 0 ≤ 2 := by decide +kernel
def HW (f : Nat) (σ τ : St) (W : Nat → Nat → Nat → Nat → Nat) : Prop := ∀ r, r ≤ 12 → ∀ a b c, W r a b c ≤ 3 ∧ mX4_refusal σ (nI r) (nI f) (nI a) (nI b) (nI c) = some (nI (W r a b c), σ) ∧ mX8_refusal τ (nI r) (nI f) (nI a) (nI b) (nI c) = some (nI (W r a b c), τ)
section
variable {F T L B O f : Nat} {σ τ : St} {W : Nat → Nat → Nat → Nat → Nat}
theorem choi (h : VV F T L B O σ τ) {r w : Nat} (hr : r ≤ 12) (hw : w < 3) : mX4_choices σ (nI r) (nI w) = some (nI (cnt L B (kdM r 0 w))) := by
  have q := x3_kind (s := σ) (r := r) (m := 0) (w := w) (x := nI 0) (by omega) hw (fun h => by omega)
  have k2 : kdM r 0 w ≤ 2 := by unfold kdM; rw [if_neg (by omega)]; exact kd_2 _ (by omega)
  have a8 := h.1.1
  have a1 := h.1.2.2.1
  generalize kdM r 0 w = k at q k2
  have hk : k = 0 ∨ k = 1 ∨ k = 2 := by omega
  rcases hk with rfl | rfl | rfl
  · have : cnt L B 0 = 1 := rfl
    rw [this]
    simp (implicitDefEqProofs := false) (disch := omega) only [mX4_choices, q, ↓bnd_e, ↓ob_s, ob_s, su_1, su_2, sl_1, sl_2, ↓ck_n, ck_n, ck_Z0, ck_Z1, c_lt, c_le, c_eq, ng_1, m_ne, m_en, m_lt, m_le, m_gt, m_ge, n_add, n_mul, n_sub, n_sm, n_pm, n_0m, n_cl, Nat.reduceEqDiff, ↓reduceIte, nle_T, nle_F, nlt_T, nlt_F, neq_F, neq_T, if_true, if_false, true_and, and_true, Nat.mul_zero, Nat.zero_add, Nat.add_zero, Nat.reduceAdd, Nat.reduceMul, Nat.reduceSub, li_0, li_1, li_2, li_3, li_4, li_5, li_6, li_7, li_8, li_9, li_10, li_11, li_12, li_13, li_14, li_15, li_16, li_20, li_24, li_28, li_31, li_35, li_38, li_40, li_41, li_45, li_48, li_60, li_62, li_63, li_97, li_100, li_104, li_105, li_120, li_124, li_127, li_180, li_239, li_240, li_255, li_256, li_300, li_400, li_960, li_1000000]
  · have : cnt L B 1 = L := rfl
    rw [this]
    simp (implicitDefEqProofs := false) (disch := omega) only [mX4_choices, q, mX3_lineCount, a8, ↓bnd_e, ↓ob_s, ob_s, su_1, su_2, sl_1, sl_2, ↓ck_n, ck_n, ck_Z0, ck_Z1, c_lt, c_le, c_eq, ng_1, m_ne, m_en, m_lt, m_le, m_gt, m_ge, n_add, n_mul, n_sub, n_sm, n_pm, n_0m, n_cl, Nat.reduceEqDiff, ↓reduceIte, nle_T, nle_F, nlt_T, nlt_F, neq_F, neq_T, if_true, if_false, true_and, and_true, Nat.mul_zero, Nat.zero_add, Nat.add_zero, Nat.reduceAdd, Nat.reduceMul, Nat.reduceSub, li_0, li_1, li_2, li_3, li_4, li_5, li_6, li_7, li_8, li_9, li_10, li_11, li_12, li_13, li_14, li_15, li_16, li_20, li_24, li_28, li_31, li_35, li_38, li_40, li_41, li_45, li_48, li_60, li_62, li_63, li_97, li_100, li_104, li_105, li_120, li_124, li_127, li_180, li_239, li_240, li_255, li_256, li_300, li_400, li_960, li_1000000]
  · have : cnt L B 2 = B := rfl
    rw [this]
    simp (implicitDefEqProofs := false) (disch := omega) only [mX4_choices, q, mX3_boxCount, mX0_known, a1, ↓bnd_e, ↓ob_s, ob_s, su_1, su_2, sl_1, sl_2, ↓ck_n, ck_n, ck_Z0, ck_Z1, c_lt, c_le, c_eq, ng_1, m_ne, m_en, m_lt, m_le, m_gt, m_ge, n_add, n_mul, n_sub, n_sm, n_pm, n_0m, n_cl, Nat.reduceEqDiff, ↓reduceIte, nle_T, nle_F, nlt_T, nlt_F, neq_F, neq_T, if_true, if_false, true_and, and_true, Nat.mul_zero, Nat.zero_add, Nat.add_zero, Nat.reduceAdd, Nat.reduceMul, Nat.reduceSub, li_0, li_1, li_2, li_3, li_4, li_5, li_6, li_7, li_8, li_9, li_10, li_11, li_12, li_13, li_14, li_15, li_16, li_20, li_24, li_28, li_31, li_35, li_38, li_40, li_41, li_45, li_48, li_60, li_62, li_63, li_97, li_100, li_104, li_105, li_120, li_124, li_127, li_180, li_239, li_240, li_255, li_256, li_300, li_400, li_960, li_1000000]
theorem reac (h : VV F T L B O σ τ) {k : Nat} (hk : k ≤ 2) : mX8_reach τ (nI k) = some (nI (cnt L B k)) := by
  have a6 := h.1.2.1
  have a2 := h.1.2.2.2.1
  have hk : k = 0 ∨ k = 1 ∨ k = 2 := by omega
  rcases hk with rfl | rfl | rfl
  · have : cnt L B 0 = 1 := rfl
    rw [this]
    simp (implicitDefEqProofs := false) (disch := omega) only [mX8_reach, ↓bnd_e, ↓ob_s, ob_s, su_1, su_2, sl_1, sl_2, ↓ck_n, ck_n, ck_Z0, ck_Z1, c_lt, c_le, c_eq, ng_1, m_ne, m_en, m_lt, m_le, m_gt, m_ge, n_add, n_mul, n_sub, n_sm, n_pm, n_0m, n_cl, Nat.reduceEqDiff, ↓reduceIte, nle_T, nle_F, nlt_T, nlt_F, neq_F, neq_T, if_true, if_false, true_and, and_true, Nat.mul_zero, Nat.zero_add, Nat.add_zero, Nat.reduceAdd, Nat.reduceMul, Nat.reduceSub, li_0, li_1, li_2, li_3, li_4, li_5, li_6, li_7, li_8, li_9, li_10, li_11, li_12, li_13, li_14, li_15, li_16, li_20, li_24, li_28, li_31, li_35, li_38, li_40, li_41, li_45, li_48, li_60, li_62, li_63, li_97, li_100, li_104, li_105, li_120, li_124, li_127, li_180, li_239, li_240, li_255, li_256, li_300, li_400, li_960, li_1000000]
  · have : cnt L B 1 = L := rfl
    rw [this]
    simp (implicitDefEqProofs := false) (disch := omega) only [mX8_reach, a6, ↓bnd_e, ↓ob_s, ob_s, su_1, su_2, sl_1, sl_2, ↓ck_n, ck_n, ck_Z0, ck_Z1, c_lt, c_le, c_eq, ng_1, m_ne, m_en, m_lt, m_le, m_gt, m_ge, n_add, n_mul, n_sub, n_sm, n_pm, n_0m, n_cl, Nat.reduceEqDiff, ↓reduceIte, nle_T, nle_F, nlt_T, nlt_F, neq_F, neq_T, if_true, if_false, true_and, and_true, Nat.mul_zero, Nat.zero_add, Nat.add_zero, Nat.reduceAdd, Nat.reduceMul, Nat.reduceSub, li_0, li_1, li_2, li_3, li_4, li_5, li_6, li_7, li_8, li_9, li_10, li_11, li_12, li_13, li_14, li_15, li_16, li_20, li_24, li_28, li_31, li_35, li_38, li_40, li_41, li_45, li_48, li_60, li_62, li_63, li_97, li_100, li_104, li_105, li_120, li_124, li_127, li_180, li_239, li_240, li_255, li_256, li_300, li_400, li_960, li_1000000]
  · have : cnt L B 2 = B := rfl
    rw [this]
    simp (implicitDefEqProofs := false) (disch := omega) only [mX8_reach, a2, ↓bnd_e, ↓ob_s, ob_s, su_1, su_2, sl_1, sl_2, ↓ck_n, ck_n, ck_Z0, ck_Z1, c_lt, c_le, c_eq, ng_1, m_ne, m_en, m_lt, m_le, m_gt, m_ge, n_add, n_mul, n_sub, n_sm, n_pm, n_0m, n_cl, Nat.reduceEqDiff, ↓reduceIte, nle_T, nle_F, nlt_T, nlt_F, neq_F, neq_T, if_true, if_false, true_and, and_true, Nat.mul_zero, Nat.zero_add, Nat.add_zero, Nat.reduceAdd, Nat.reduceMul, Nat.reduceSub, li_0, li_1, li_2, li_3, li_4, li_5, li_6, li_7, li_8, li_9, li_10, li_11, li_12, li_13, li_14, li_15, li_16, li_20, li_24, li_28, li_31, li_35, li_38, li_40, li_41, li_45, li_48, li_60, li_62, li_63, li_97, li_100, li_104, li_105, li_120, li_124, li_127, li_180, li_239, li_240, li_255, li_256, li_300, li_400, li_960, li_1000000]
theorem hc_c (h : VV F T L B O σ τ) (hW : HW f σ τ W) {r a b : Nat} (hr : r ≤ 12) (kh2 kh46) : ∀ d c n, c + d = cnt L B (kdM r 0 2) → d < n →
    mX4_search_94 kh2 kh46 n σ (nI r) (nI f) (nI a) (nI b) (nI c) = oC σ (scanO (gC W r a b) d c) (mX4_search_137 kh2 kh46 σ (nI r) (nI f) (nI a) (nI b)) := by
  have hL : L ≤ 60 := h.2.2.2.1.1
  have hB : B ≤ 60 := by have := h.2.2.2.1.2.1; omega
  have hc60 := cnt_60 hL hB (kdM r 0 2)
  have ch := choi h hr (w := 2) (by omega)
  intro d
  induction d with
  | zero =>
    intro c n hc hn
    obtain ⟨n, rfl⟩ : ∃ m, n = m + 1 := ⟨n - 1, by omega⟩
    show bX4_search_94 kh2 kh46 (mX4_search_94 kh2 kh46 n) σ (nI r) (nI f) (nI a) (nI b) (nI c) = _
    unfold bX4_search_94
    rw [show (2 : Int32) = nI 2 from rfl, ch, ob_s, if_pos (by rw [c_le (by omega) (by omega)]; omega)]
    rfl
  | succ d ih =>
    intro c n hc hn
    obtain ⟨n, rfl⟩ : ∃ m, n = m + 1 := ⟨n - 1, by omega⟩
    obtain ⟨w3, wc, wm⟩ := hW r hr a b c
    show bX4_search_94 kh2 kh46 (mX4_search_94 kh2 kh46 n) σ (nI r) (nI f) (nI a) (nI b) (nI c) = _
    unfold bX4_search_94
    rw [show (2 : Int32) = nI 2 from rfl, ch, ob_s, if_neg (by rw [c_le (by omega) (by omega)]; omega), wc, ob_s]
    dsimp only
    by_cases w0 : W r a b c = 0
    · rw [w0, if_pos (by decide), scanO_1 (x := (r, a, b, c)) (by unfold gC; rw [if_pos w0])]
      rfl
    · rw [if_neg (show ¬ nI (W r a b c) = 0 by rw [show (0 : Int32) = nI 0 from rfl, c_eq (by omega) (by omega)]; exact w0), bnd_e, scanO_0 (by unfold gC; rw [if_neg w0]), show nI c + 1 = nI (c + 1) from nI_1 c]
      exact ih (c + 1) n (by omega) (by omega)
theorem hc_b (h : VV F T L B O σ τ) (hf : RF F σ τ) (hh : RH F T σ τ) (hW : HW f σ τ W) {r a : Nat} (hr : r ≤ 12) (kh2) : ∀ d b n, b + d = cnt L B (kdM r 0 1) → d < n →
    mX4_search_46 kh2 n σ (nI r) (nI f) (nI a) (nI b) = oC σ (scanO (gB W r (cnt L B (kdM r 0 2)) a) d b) (mX4_search_143 kh2 σ (nI r) (nI f) (nI a)) := by
  have hL : L ≤ 60 := h.2.2.2.1.1
  have hB : B ≤ 60 := by have := h.2.2.2.1.2.1; omega
  have hc60 := cnt_60 hL hB (kdM r 0 1)
  have hc61 := cnt_60 hL hB (kdM r 0 2)
  have ch := choi h hr (w := 1) (by omega)
  have q1 := x3_kind (s := σ) (r := r) (m := 0) (w := 1) (x := nI a) (by omega) (by omega) (fun h => by omega)
  intro d
  induction d with
  | zero =>
    intro b n hb hn
    obtain ⟨n, rfl⟩ : ∃ m, n = m + 1 := ⟨n - 1, by omega⟩
    show bX4_search_46 kh2 (mX4_search_46 kh2 n) σ (nI r) (nI f) (nI a) (nI b) = _
    unfold bX4_search_46
    rw [show (1 : Int32) = nI 1 from rfl, ch, ob_s, if_pos (by rw [c_le (by omega) (by omega)]; omega)]
    rfl
  | succ d ih =>
    intro b n hb hn
    obtain ⟨n, rfl⟩ : ∃ m, n = m + 1 := ⟨n - 1, by omega⟩
    have next : gB W r (cnt L B (kdM r 0 2)) a b = none → mX4_search_137 kh2 (mX4_search_46 kh2 n) σ (nI r) (nI f) (nI a) (nI b) = oC σ (scanO (gB W r (cnt L B (kdM r 0 2)) a) (d + 1) b) (mX4_search_143 kh2 σ (nI r) (nI f) (nI a)) := by
      intro e
      unfold mX4_search_137
      rw [bnd_e, scanO_0 e, show nI b + 1 = nI (b + 1) from nI_1 b]
      exact ih (b + 1) n (by omega) (by omega)
    show bX4_search_46 kh2 (mX4_search_46 kh2 n) σ (nI r) (nI f) (nI a) (nI b) = _
    unfold bX4_search_46
    obtain ⟨c1, g1, _, _⟩ := reach_rel h hh (kdM_3 r 0 1 (by omega) (by omega)) (nI b)
    obtain ⟨v, hv⟩ := sf_tot hf.le hf.1.2.1 hL hB h.1.1 h.1.2.2.1 (nI r) (nI f) (nI a) (nI b)
    rw [show (1 : Int32) = nI 1 from rfl, ch, ob_s, if_neg (by rw [c_le (by omega) (by omega)]; omega), q1, ob_s, g1, ob_s]
    have nz : ∀ c, W r a b c = 0 → c1 = true ∧ ¬ v = 0 := fun c w0 => by
      obtain ⟨_, wc, _⟩ := hW r hr a b c
      rw [w0] at wc
      obtain ⟨_, y1, _, v', hv', nv⟩ := fits_of h hh hr wc
      rw [g1] at y1
      rw [hv] at hv'
      have e1 := Option.some.inj hv'
      refine ⟨?_, by rw [e1]; exact nv⟩
      cases c1
      · exact absurd (Option.some.inj y1) (by decide)
      · rfl
    have none_of : (¬ (c1 = true ∧ ¬ v = 0)) → gB W r (cnt L B (kdM r 0 2)) a b = none := fun e => scanO_n (fun c => by
      unfold gC
      rw [if_neg (fun w0 => e (nz c w0))]) _ _
    cases c1
    · rw [if_pos (show zB false = 0 from rfl)]
      exact next (none_of (fun h => absurd h.1 (by decide)))
    · rw [if_neg (by decide), hv, ob_s]
      by_cases v0 : v = 0
      · rw [if_pos v0]
        exact next (none_of (fun h => h.2 v0))
      · rw [if_neg v0]
        have e := hc_c (W := W) h hW (a := a) (b := b) hr kh2 (mX4_search_46 kh2 n) (cnt L B (kdM r 0 2)) 0 NF (by omega) (by show _ < 1000; omega)
        refine e.trans ?_
        cases hg : scanO (gC W r a b) (cnt L B (kdM r 0 2)) 0 with
        | none => exact next hg
        | some x =>
          rw [scanO_1 (g := gB W r (cnt L B (kdM r 0 2)) a) (k := b) (x := x) hg]; rfl
theorem hc_a (h : VV F T L B O σ τ) (hf : RF F σ τ) (hh : RH F T σ τ) (hW : HW f σ τ W) {r : Nat} (hr : r ≤ 12) : ∀ d a n, a + d = cnt L B (kdM r 0 0) → d < n →
    mX4_search_2 n σ (nI r) (nI f) (nI a) = oC σ (scanO (gA W r (cnt L B (kdM r 0 1)) (cnt L B (kdM r 0 2))) d a) (some (0, σ)) := by
  have hL : L ≤ 60 := h.2.2.2.1.1
  have hB : B ≤ 60 := by have := h.2.2.2.1.2.1; omega
  have hc60 := cnt_60 hL hB (kdM r 0 0)
  have hc61 := cnt_60 hL hB (kdM r 0 1)
  have ch := choi h hr (w := 0) (by omega)
  intro d
  induction d with
  | zero =>
    intro a n hb hn
    obtain ⟨n, rfl⟩ : ∃ m, n = m + 1 := ⟨n - 1, by omega⟩
    show bX4_search_2 (mX4_search_2 n) σ (nI r) (nI f) (nI a) = _
    unfold bX4_search_2
    rw [show (0 : Int32) = nI 0 from rfl, ch, ob_s, if_pos (by rw [c_le (by omega) (by omega)]; omega)]
    rfl
  | succ d ih =>
    intro a n hb hn
    obtain ⟨n, rfl⟩ : ∃ m, n = m + 1 := ⟨n - 1, by omega⟩
    have next : gA W r (cnt L B (kdM r 0 1)) (cnt L B (kdM r 0 2)) a = none → mX4_search_143 (mX4_search_2 n) σ (nI r) (nI f) (nI a) = oC σ (scanO (gA W r (cnt L B (kdM r 0 1)) (cnt L B (kdM r 0 2))) (d + 1) a) (some (0, σ)) := by
      intro e
      unfold mX4_search_143
      rw [bnd_e, scanO_0 e, show nI a + 1 = nI (a + 1) from nI_1 a]
      exact ih (a + 1) n (by omega) (by omega)
    show bX4_search_2 (mX4_search_2 n) σ (nI r) (nI f) (nI a) = _
    unfold bX4_search_2
    have q0 := x3_kind (s := σ) (r := r) (m := 0) (w := 0) (x := nI a) (by omega) (by omega) (fun h => by omega)
    obtain ⟨c1, g1, _, _⟩ := reach_rel h hh (kdM_3 r 0 0 (by omega) (by omega)) (nI a)
    obtain ⟨v, hv⟩ := ff_tot hf.le hf.1.2.1 hL hB h.1.1 h.1.2.2.1 (nI r) (nI f) (nI a)
    rw [show (0 : Int32) = nI 0 from rfl, ch, ob_s, if_neg (by rw [c_le (by omega) (by omega)]; omega), q0, ob_s, g1, ob_s]
    have nz : ∀ b c, W r a b c = 0 → c1 = true ∧ ¬ v = 0 := fun b c w0 => by
      obtain ⟨_, wc, _⟩ := hW r hr a b c
      rw [w0] at wc
      obtain ⟨y1, _, ⟨v', hv', nv⟩, _⟩ := fits_of h hh hr wc
      rw [g1] at y1
      rw [hv] at hv'
      have e1 := Option.some.inj hv'
      refine ⟨?_, by rw [e1]; exact nv⟩
      cases c1
      · exact absurd (Option.some.inj y1) (by decide)
      · rfl
    have none_of : (¬ (c1 = true ∧ ¬ v = 0)) → gA W r (cnt L B (kdM r 0 1)) (cnt L B (kdM r 0 2)) a = none := fun e => scanO_n (fun b => scanO_n (fun c => by
      unfold gC
      rw [if_neg (fun w0 => e (nz b c w0))]) _ _) _ _
    cases c1
    · rw [if_pos (show zB false = nI 0 from rfl)]
      exact next (none_of (fun h => absurd h.1 (by decide)))
    · rw [if_neg (by decide), hv, ob_s]
      by_cases v0 : v = 0
      · rw [if_pos (show v = nI 0 from v0)]
        exact next (none_of (fun h => h.2 v0))
      · rw [if_neg (show ¬ v = nI 0 from v0)]
        have e := hc_b (W := W) h hf hh hW (a := a) hr (mX4_search_2 n) (cnt L B (kdM r 0 1)) 0 NF (by omega) (by show _ < 1000; omega)
        refine e.trans ?_
        cases hg : scanO (gB W r (cnt L B (kdM r 0 2)) a) (cnt L B (kdM r 0 1)) 0 with
        | none => exact next hg
        | some x =>
          rw [scanO_1 (g := gA W r (cnt L B (kdM r 0 1)) (cnt L B (kdM r 0 2))) (k := a) (x := x) hg]; rfl
theorem hm_c (h : VV F T L B O σ τ) (hW : HW f σ τ W) {r a b N : Nat} (hr : r ≤ 12) (d3 : nI N - nI N / nI 10 * nI 10 = nI (kdM r 0 2)) (kh2 kh17 kh33) : ∀ d c n, c + d = cnt L B (kdM r 0 2) → d < n →
    mX8_findHint_52 kh2 kh17 kh33 n τ (nI f) (nI r) (nI N) (nI a) (nI b) (nI c) = oM τ (scanO (gC W r a b) d c) (mX8_findHint_122 kh2 kh17 kh33 τ (nI f) (nI r) (nI N) (nI a) (nI b)) := by
  have hL : L ≤ 60 := h.2.2.2.1.1
  have hB : B ≤ 60 := by have := h.2.2.2.1.2.1; omega
  have hc60 := cnt_60 hL hB (kdM r 0 2)
  have ch := reac (σ := σ) h (k := kdM r 0 2) (by unfold kdM; rw [if_neg (by omega)]; exact kd_2 _ (by omega))
  intro d
  induction d with
  | zero =>
    intro c n hc hn
    obtain ⟨n, rfl⟩ : ∃ m, n = m + 1 := ⟨n - 1, by omega⟩
    show bX8_findHint_52 kh2 kh17 kh33 (mX8_findHint_52 kh2 kh17 kh33 n) τ (nI f) (nI r) (nI N) (nI a) (nI b) (nI c) = _
    unfold bX8_findHint_52
    rw [show (10 : Int32) = nI 10 from rfl, d3, ch, ob_s, if_pos (by rw [c_le (by omega) (by omega)]; omega)]
    rfl
  | succ d ih =>
    intro c n hc hn
    obtain ⟨n, rfl⟩ : ∃ m, n = m + 1 := ⟨n - 1, by omega⟩
    obtain ⟨w3, wc, wm⟩ := hW r hr a b c
    show bX8_findHint_52 kh2 kh17 kh33 (mX8_findHint_52 kh2 kh17 kh33 n) τ (nI f) (nI r) (nI N) (nI a) (nI b) (nI c) = _
    unfold bX8_findHint_52
    rw [show (10 : Int32) = nI 10 from rfl, d3, ch, ob_s, if_neg (by rw [c_le (by omega) (by omega)]; omega), wm, ob_s]
    dsimp only
    by_cases w0 : W r a b c = 0
    · rw [w0, if_pos (by decide), scanO_1 (x := (r, a, b, c)) (by unfold gC; rw [if_pos w0])]
      rfl
    · rw [if_neg (show ¬ nI (W r a b c) = 0 by rw [show (0 : Int32) = nI 0 from rfl, c_eq (by omega) (by omega)]; exact w0), bnd_e, scanO_0 (by unfold gC; rw [if_neg w0]), show nI c + 1 = nI (c + 1) from nI_1 c]
      exact ih (c + 1) n (by omega) (by omega)
theorem hm_b (h : VV F T L B O σ τ) (hW : HW f σ τ W) {r a N : Nat} (hr : r ≤ 12) (d2 : nI N / nI 10 - nI N / nI 10 / nI 10 * nI 10 = nI (kdM r 0 1)) (d3 : nI N - nI N / nI 10 * nI 10 = nI (kdM r 0 2)) (kh2 kh17) : ∀ d b n, b + d = cnt L B (kdM r 0 1) → d < n →
    mX8_findHint_33 kh2 kh17 n τ (nI f) (nI r) (nI N) (nI a) (nI b) = oM τ (scanO (gB W r (cnt L B (kdM r 0 2)) a) d b) (mX8_findHint_128 kh2 kh17 τ (nI f) (nI r) (nI N) (nI a)) := by
  have hL : L ≤ 60 := h.2.2.2.1.1
  have hB : B ≤ 60 := by have := h.2.2.2.1.2.1; omega
  have hc60 := cnt_60 hL hB (kdM r 0 1)
  have hc61 := cnt_60 hL hB (kdM r 0 2)
  have ch := reac (σ := σ) h (k := kdM r 0 1) (by unfold kdM; rw [if_neg (by omega)]; exact kd_2 _ (by omega))
  intro d
  induction d with
  | zero =>
    intro b n hb hn
    obtain ⟨n, rfl⟩ : ∃ m, n = m + 1 := ⟨n - 1, by omega⟩
    show bX8_findHint_33 kh2 kh17 (mX8_findHint_33 kh2 kh17 n) τ (nI f) (nI r) (nI N) (nI a) (nI b) = _
    unfold bX8_findHint_33
    rw [show (10 : Int32) = nI 10 from rfl, d2, ch, ob_s, if_pos (by rw [c_le (by omega) (by omega)]; omega)]
    rfl
  | succ d ih =>
    intro b n hb hn
    obtain ⟨n, rfl⟩ : ∃ m, n = m + 1 := ⟨n - 1, by omega⟩
    show bX8_findHint_33 kh2 kh17 (mX8_findHint_33 kh2 kh17 n) τ (nI f) (nI r) (nI N) (nI a) (nI b) = _
    unfold bX8_findHint_33
    rw [show (10 : Int32) = nI 10 from rfl, d2, ch, ob_s, if_neg (by rw [c_le (by omega) (by omega)]; omega)]
    have e := hm_c (W := W) h hW (a := a) (b := b) hr d3 kh2 kh17 (mX8_findHint_33 kh2 kh17 n) (cnt L B (kdM r 0 2)) 0 NF (by omega) (by show _ < 1000; omega)
    refine e.trans ?_
    cases hg : scanO (gC W r a b) (cnt L B (kdM r 0 2)) 0 with
    | none =>
      rw [scanO_0 (g := gB W r (cnt L B (kdM r 0 2)) a) (k := b) hg]
      show mX8_findHint_122 kh2 kh17 (mX8_findHint_33 kh2 kh17 n) τ (nI f) (nI r) (nI N) (nI a) (nI b) = _
      unfold mX8_findHint_122
      rw [bnd_e, show nI b + 1 = nI (b + 1) from nI_1 b]
      exact ih (b + 1) n (by omega) (by omega)
    | some x => rw [scanO_1 (g := gB W r (cnt L B (kdM r 0 2)) a) (k := b) (x := x) hg]; rfl
theorem hm_a (h : VV F T L B O σ τ) (hW : HW f σ τ W) {r N : Nat} (hr : r ≤ 12) (d1 : nI N / nI 100 = nI (kdM r 0 0)) (d2 : nI N / nI 10 - nI N / nI 10 / nI 10 * nI 10 = nI (kdM r 0 1)) (d3 : nI N - nI N / nI 10 * nI 10 = nI (kdM r 0 2)) (kh2) : ∀ d a n, a + d = cnt L B (kdM r 0 0) → d < n →
    mX8_findHint_17 kh2 n τ (nI f) (nI r) (nI N) (nI a) = oM τ (scanO (gA W r (cnt L B (kdM r 0 1)) (cnt L B (kdM r 0 2))) d a) (mX8_findHint_134 kh2 τ (nI f) (nI r)) := by
  have hL : L ≤ 60 := h.2.2.2.1.1
  have hB : B ≤ 60 := by have := h.2.2.2.1.2.1; omega
  have hc60 := cnt_60 hL hB (kdM r 0 0)
  have hc61 := cnt_60 hL hB (kdM r 0 1)
  have ch := reac (σ := σ) h (k := kdM r 0 0) (by unfold kdM; rw [if_neg (by omega)]; exact kd_2 _ (by omega))
  intro d
  induction d with
  | zero =>
    intro a n hb hn
    obtain ⟨n, rfl⟩ : ∃ m, n = m + 1 := ⟨n - 1, by omega⟩
    show bX8_findHint_17 kh2 (mX8_findHint_17 kh2 n) τ (nI f) (nI r) (nI N) (nI a) = _
    unfold bX8_findHint_17
    rw [show (100 : Int32) = nI 100 from rfl, d1, ch, ob_s, if_pos (by rw [c_le (by omega) (by omega)]; omega)]
    rfl
  | succ d ih =>
    intro a n hb hn
    obtain ⟨n, rfl⟩ : ∃ m, n = m + 1 := ⟨n - 1, by omega⟩
    show bX8_findHint_17 kh2 (mX8_findHint_17 kh2 n) τ (nI f) (nI r) (nI N) (nI a) = _
    unfold bX8_findHint_17
    rw [show (100 : Int32) = nI 100 from rfl, d1, ch, ob_s, if_neg (by rw [c_le (by omega) (by omega)]; omega)]
    have e := hm_b (W := W) h hW (a := a) hr d2 d3 kh2 (mX8_findHint_17 kh2 n) (cnt L B (kdM r 0 1)) 0 NF (by omega) (by show _ < 1000; omega)
    refine e.trans ?_
    cases hg : scanO (gB W r (cnt L B (kdM r 0 2)) a) (cnt L B (kdM r 0 1)) 0 with
    | none =>
      rw [scanO_0 (g := gA W r (cnt L B (kdM r 0 1)) (cnt L B (kdM r 0 2))) (k := a) hg]
      show mX8_findHint_128 kh2 (mX8_findHint_17 kh2 n) τ (nI f) (nI r) (nI N) (nI a) = _
      unfold mX8_findHint_128
      rw [bnd_e, show nI a + 1 = nI (a + 1) from nI_1 a]
      exact ih (a + 1) n (by omega) (by omega)
    | some x => rw [scanO_1 (g := gA W r (cnt L B (kdM r 0 1)) (cnt L B (kdM r 0 2))) (k := a) (x := x) hg]; rfl
def vec4 (g : Nat → Int32) (x : Q4) : Nat → Int32 := upd (upd (upd (upd g 0 (nI x.1)) 1 (nI x.2.1)) 2 (nI x.2.2.1)) 3 (nI x.2.2.2)
theorem vec4_w (g g' : Nat → Int32) (x : Q4) {w : Nat} (hw : w < 4) : vec4 g x w = vec4 g' x w := by
  have h4 : w = 0 ∨ w = 1 ∨ w = 2 ∨ w = 3 := by omega
  rcases h4 with rfl | rfl | rfl | rfl <;> rfl
theorem s119 (s : St) (x : Q4) : mX4_search_119 s (nI x.1) (nI x.2.1) (nI x.2.2.1) (nI x.2.2.2) = some (nI 1, su s 39 (vec4 (s.1 39) x)) := by
  unfold vec4
  simp (implicitDefEqProofs := false) (disch := omega) only [mX4_search_119, mX4_keep, su_su, ↓bnd_e, ↓ob_s, ob_s, su_1, su_2, sl_1, sl_2, ↓ck_n, ck_n, ck_Z0, ck_Z1, c_lt, c_le, c_eq, ng_1, m_ne, m_en, m_lt, m_le, m_gt, m_ge, n_add, n_mul, n_sub, n_sm, n_pm, n_0m, n_cl, Nat.reduceEqDiff, ↓reduceIte, nle_T, nle_F, nlt_T, nlt_F, neq_F, neq_T, if_true, if_false, true_and, and_true, Nat.mul_zero, Nat.zero_add, Nat.add_zero, Nat.reduceAdd, Nat.reduceMul, Nat.reduceSub, li_0, li_1, li_2, li_3, li_4, li_5, li_6, li_7, li_8, li_9, li_10, li_11, li_12, li_13, li_14, li_15, li_16, li_20, li_24, li_28, li_31, li_35, li_38, li_40, li_41, li_45, li_48, li_60, li_62, li_63, li_97, li_100, li_104, li_105, li_120, li_124, li_127, li_180, li_239, li_240, li_255, li_256, li_300, li_400, li_960, li_1000000]
theorem s83 (s : St) (x : Q4) : mX8_findHint_83 s (nI x.1) (nI x.2.1) (nI x.2.2.1) (nI x.2.2.2) = some (nI 1, su s 41 (vec4 (s.1 41) x)) := by
  unfold vec4
  simp (implicitDefEqProofs := false) (disch := omega) only [mX8_findHint_83, su_su, ↓bnd_e, ↓ob_s, ob_s, su_1, su_2, sl_1, sl_2, ↓ck_n, ck_n, ck_Z0, ck_Z1, c_lt, c_le, c_eq, ng_1, m_ne, m_en, m_lt, m_le, m_gt, m_ge, n_add, n_mul, n_sub, n_sm, n_pm, n_0m, n_cl, Nat.reduceEqDiff, ↓reduceIte, nle_T, nle_F, nlt_T, nlt_F, neq_F, neq_T, if_true, if_false, true_and, and_true, Nat.mul_zero, Nat.zero_add, Nat.add_zero, Nat.reduceAdd, Nat.reduceMul, Nat.reduceSub, li_0, li_1, li_2, li_3, li_4, li_5, li_6, li_7, li_8, li_9, li_10, li_11, li_12, li_13, li_14, li_15, li_16, li_20, li_24, li_28, li_31, li_35, li_38, li_40, li_41, li_45, li_48, li_60, li_62, li_63, li_97, li_100, li_104, li_105, li_120, li_124, li_127, li_180, li_239, li_240, li_255, li_256, li_300, li_400, li_960, li_1000000]
/-- all rules, one after the other -/
theorem hr_rel (h : VV F T L B O σ τ) (hf : RF F σ τ) (hh : RH F T σ τ) (hW : HW f σ τ W) {w : Nat} (hw : w < 4) : ∀ d r n n', r + d = 13 → d < n → d < n' →
    (mX7_hint_32 n σ (nI f) (nI w) (nI r) = some (mI, σ) ∧ mX8_findHint_2 n' τ (nI f) (nI r) = some (nI 0, τ)) ∨
    ∃ x : Q4, mX7_hint_32 n σ (nI f) (nI w) (nI r) = some (vec4 (σ.1 39) x w, su σ 39 (vec4 (σ.1 39) x)) ∧ mX8_findHint_2 n' τ (nI f) (nI r) = some (nI 1, su τ 41 (vec4 (τ.1 41) x)) := by
  have hL : L ≤ 60 := h.2.2.2.1.1
  have hB : B ≤ 60 := by have := h.2.2.2.1.2.1; omega
  intro d
  induction d with
  | zero =>
    intro r n n' hr hn hn'
    obtain ⟨n, rfl⟩ : ∃ m, n = m + 1 := ⟨n - 1, by omega⟩
    obtain ⟨n', rfl⟩ : ∃ m, n' = m + 1 := ⟨n' - 1, by omega⟩
    have : r = 13 := by omega
    subst this
    exact Or.inl ⟨by simp (implicitDefEqProofs := false) (disch := omega) only [fx_s, bX7_hint_32, ↓bnd_e, ↓ob_s, ob_s, su_1, su_2, sl_1, sl_2, ↓ck_n, ck_n, ck_Z0, ck_Z1, c_lt, c_le, c_eq, ng_1, m_ne, m_en, m_lt, m_le, m_gt, m_ge, n_add, n_mul, n_sub, n_sm, n_pm, n_0m, n_cl, Nat.reduceEqDiff, ↓reduceIte, nle_T, nle_F, nlt_T, nlt_F, neq_F, neq_T, if_true, if_false, true_and, and_true, Nat.mul_zero, Nat.zero_add, Nat.add_zero, Nat.reduceAdd, Nat.reduceMul, Nat.reduceSub, li_0, li_1, li_2, li_3, li_4, li_5, li_6, li_7, li_8, li_9, li_10, li_11, li_12, li_13, li_14, li_15, li_16, li_20, li_24, li_28, li_31, li_35, li_38, li_40, li_41, li_45, li_48, li_60, li_62, li_63, li_97, li_100, li_104, li_105, li_120, li_124, li_127, li_180, li_239, li_240, li_255, li_256, li_300, li_400, li_960, li_1000000], by simp (implicitDefEqProofs := false) (disch := omega) only [fx_s, bX8_findHint_2, ↓bnd_e, ↓ob_s, ob_s, su_1, su_2, sl_1, sl_2, ↓ck_n, ck_n, ck_Z0, ck_Z1, c_lt, c_le, c_eq, ng_1, m_ne, m_en, m_lt, m_le, m_gt, m_ge, n_add, n_mul, n_sub, n_sm, n_pm, n_0m, n_cl, Nat.reduceEqDiff, ↓reduceIte, nle_T, nle_F, nlt_T, nlt_F, neq_F, neq_T, if_true, if_false, true_and, and_true, Nat.mul_zero, Nat.zero_add, Nat.add_zero, Nat.reduceAdd, Nat.reduceMul, Nat.reduceSub, li_0, li_1, li_2, li_3, li_4, li_5, li_6, li_7, li_8, li_9, li_10, li_11, li_12, li_13, li_14, li_15, li_16, li_20, li_24, li_28, li_31, li_35, li_38, li_40, li_41, li_45, li_48, li_60, li_62, li_63, li_97, li_100, li_104, li_105, li_120, li_124, li_127, li_180, li_239, li_240, li_255, li_256, li_300, li_400, li_960, li_1000000]⟩
  | succ d ih =>
    intro r n n' hr hn hn'
    obtain ⟨n, rfl⟩ : ∃ m, n = m + 1 := ⟨n - 1, by omega⟩
    obtain ⟨n', rfl⟩ : ∃ m, n' = m + 1 := ⟨n' - 1, by omega⟩
    obtain ⟨y1, y2, y3, y4, y5⟩ := nds_v r (by omega)
    obtain ⟨d1, d2, d3⟩ := nd_dig y2
    have eK : ∀ w, KT.getD (3 * r + w) 0 = kdM r 0 w := fun w => by unfold kdM; rw [if_neg (by omega)]
    rw [y3, show KT.getD (3 * r) 0 = KT.getD (3 * r + 0) 0 from rfl, eK] at d1
    rw [y4, eK] at d2
    rw [y5, eK] at d3
    have hc60 := cnt_60 hL hB (kdM r 0 0)
    have ec := hc_a (W := W) h hf hh hW (r := r) (by omega) (cnt L B (kdM r 0 0)) 0 NF (by omega) (by show _ < 1000; omega)
    have em := hm_a (W := W) h hW (r := r) (by omega) d1 d2 d3 (mX8_findHint_2 n') (cnt L B (kdM r 0 0)) 0 NF (by omega) (by show _ < 1000; omega)
    have uc : mX7_hint_32 (n + 1) σ (nI f) (nI w) (nI r) = (mX4_search_2 NF σ (nI r) (nI f) (nI 0)).bind fun ⟨r10, s12⟩ => if r10 = 0 then mX7_hint_32 n s12 (nI f) (nI w) (nI r + 1) else mX7_hint_50 s12 (nI w) := by
      show bX7_hint_32 (mX7_hint_32 n) σ (nI f) (nI w) (nI r) = _
      unfold bX7_hint_32
      rw [if_neg (by rw [show (13 : Int32) = nI 13 from rfl, c_le (by omega) (by omega)]; omega)]
      rfl
    have um : mX8_findHint_2 (n' + 1) τ (nI f) (nI r) = mX8_findHint_17 (mX8_findHint_2 n') NF τ (nI f) (nI r) (nI (NDS.getD r 0)) (nI 0) := by
      show bX8_findHint_2 (mX8_findHint_2 n') τ (nI f) (nI r) = _
      unfold bX8_findHint_2
      rw [if_neg (by rw [show (13 : Int32) = nI 13 from rfl, c_le (by omega) (by omega)]; omega), ck_n _ (by omega) (by omega), bnd_e, n_cl (by omega), y1]
      rfl
    rw [uc, um, ec, em]
    cases hg : scanO (gA W r (cnt L B (kdM r 0 1)) (cnt L B (kdM r 0 2))) (cnt L B (kdM r 0 0)) 0 with
    | none =>
      have z := ih (r + 1) n n' (by omega) (by omega) (by omega)
      have c1 : (oC σ none (some (0, σ))).bind (fun ⟨r10, s12⟩ => if r10 = 0 then mX7_hint_32 n s12 (nI f) (nI w) (nI r + 1) else mX7_hint_50 s12 (nI w)) = mX7_hint_32 n σ (nI f) (nI w) (nI (r + 1)) := by
        rw [← nI_1 r]; rfl
      have c2 : oM τ none (mX8_findHint_134 (mX8_findHint_2 n') τ (nI f) (nI r)) = mX8_findHint_2 n' τ (nI f) (nI (r + 1)) := by
        rw [← nI_1 r]; rfl
      rw [c1, c2]
      exact z
    | some x =>
      refine Or.inr ⟨x, ?_, ?_⟩
      · have c1 : oC σ (some x) (some (0, σ)) = some (nI 1, su σ 39 (vec4 (σ.1 39) x)) := s119 σ x
        rw [c1]
        simp (implicitDefEqProofs := false) (disch := omega) only [mX7_hint_50, mX4_found, ↓bnd_e, ↓ob_s, ob_s, su_1, su_2, sl_1, sl_2, ↓ck_n, ck_n, ck_Z0, ck_Z1, c_lt, c_le, c_eq, ng_1, m_ne, m_en, m_lt, m_le, m_gt, m_ge, n_add, n_mul, n_sub, n_sm, n_pm, n_0m, n_cl, Nat.reduceEqDiff, ↓reduceIte, nle_T, nle_F, nlt_T, nlt_F, neq_F, neq_T, if_true, if_false, true_and, and_true, Nat.mul_zero, Nat.zero_add, Nat.add_zero, Nat.reduceAdd, Nat.reduceMul, Nat.reduceSub, li_0, li_1, li_2, li_3, li_4, li_5, li_6, li_7, li_8, li_9, li_10, li_11, li_12, li_13, li_14, li_15, li_16, li_20, li_24, li_28, li_31, li_35, li_38, li_40, li_41, li_45, li_48, li_60, li_62, li_63, li_97, li_100, li_104, li_105, li_120, li_124, li_127, li_180, li_239, li_240, li_255, li_256, li_300, li_400, li_960, li_1000000]
      · exact s83 τ x
end
theorem P_hint {σ τ : St} (h : RR σ τ) (p1 p2 : Int32) : (∃ (r : Int32) (σ' : St) (τ' : St), mX7_hint σ p1 p2 = some (r, σ') ∧ mX8_hint τ p1 p2 = some (r, τ') ∧ τ'.1 0 0 = 0 ∧ RR σ' τ') ∨ (∃ (v : Int32) (σ' : St) (τ' : St), tX7_hint σ p1 p2 = some (3, σ') ∧ mX8_hint τ p1 p2 = some (v, τ') ∧ τ'.1 0 0 = 1 ∧ RR σ' τ') := by
  have h0 := h
  have hR := RR_thr h
  have hR2 := fun v w => RR_thr (RR_thr h v) w
  obtain ⟨F, T, hf, ht, hp, hh, hv⟩ := h
  obtain ⟨L, B, O, hV⟩ := hv.vv
  have kz : KE [0] τ (su τ 0 (fun _ => nI 0)) := KE.rf.s (by decide)
  have hV' : VV F T L B O σ (su τ 0 (fun _ => nI 0)) := hV.k hh.1.1 (KE.rf (l := [])) kz (by decide) (by decide)
  have hf' : RF F σ (su τ 0 (fun _ => nI 0)) := hf.c (fun _ _ => rfl) rfl (.k kz (by decide))
  have hh' : RH F T σ (su τ 0 (fun _ => nI 0)) := hh.c (Nat.le_refl _) (fun _ _ => rfl) (.k kz (by decide))
  have z5 : (su τ 0 (fun _ => nI 0)).1 5 0 = nI F := hf.1.2.2
  have bad : ∀ {P : Prop}, tX7_hint σ p1 p2 = some (3, σ) → mX8_hint τ p1 p2 = some (nI 0, su (su τ 0 (fun _ => nI 0)) 0 (fun _ => nI 1)) → P ∨ (∃ (v : Int32) (σ' : St) (τ' : St), tX7_hint σ p1 p2 = some (3, σ') ∧ mX8_hint τ p1 p2 = some (v, τ') ∧ τ'.1 0 0 = 1 ∧ RR σ' τ') := fun x y => Or.inr ⟨_, _, _, x, y, rfl, hR2 _ _⟩
  rcases kn_rel hf p1 with ⟨f, hff, rfl, k1, k8⟩ | ⟨k1, k8⟩
  · have k8' := k8 _ z5
    rcases x8_in p2 3 (by omega) with ⟨w, hw, rfl, g1⟩ | ⟨g0, gx, g2⟩
    · obtain ⟨W, hW⟩ : ∃ W, HW f σ (su τ 0 (fun _ => nI 0)) W := by
        have ex : ∀ r a b c : Nat, ∃ why, r ≤ 12 → (why ≤ 3 ∧ mX4_refusal σ (nI r) (nI f) (nI a) (nI b) (nI c) = some (nI why, σ) ∧ mX8_refusal (su τ 0 (fun _ => nI 0)) (nI r) (nI f) (nI a) (nI b) (nI c) = some (nI why, su τ 0 (fun _ => nI 0))) := fun r a b c => by
          by_cases hr : r ≤ 12
          · obtain ⟨why, x⟩ := refusal_12 hV' hf' hh' hr hff (nI a) (nI b) (nI c)
            exact ⟨why, fun _ => x⟩
          · exact ⟨0, fun h => absurd h hr⟩
        exact ⟨fun r a b c => Classical.choose (ex r a b c), fun r hr a b c => Classical.choose_spec (ex r a b c) hr⟩
      have e7 : mX7_hint σ (nI f) (nI w) = mX7_hint_32 NF σ (nI f) (nI w) (nI 0) := by simp (implicitDefEqProofs := false) (disch := omega) only [mX7_hint, k1, ↓bnd_e, ↓ob_s, ob_s, su_1, su_2, sl_1, sl_2, ↓ck_n, ck_n, ck_Z0, ck_Z1, c_lt, c_le, c_eq, ng_1, m_ne, m_en, m_lt, m_le, m_gt, m_ge, n_add, n_mul, n_sub, n_sm, n_pm, n_0m, n_cl, Nat.reduceEqDiff, ↓reduceIte, nle_T, nle_F, nlt_T, nlt_F, neq_F, neq_T, if_true, if_false, true_and, and_true, Nat.mul_zero, Nat.zero_add, Nat.add_zero, Nat.reduceAdd, Nat.reduceMul, Nat.reduceSub, li_0, li_1, li_2, li_3, li_4, li_5, li_6, li_7, li_8, li_9, li_10, li_11, li_12, li_13, li_14, li_15, li_16, li_20, li_24, li_28, li_31, li_35, li_38, li_40, li_41, li_45, li_48, li_60, li_62, li_63, li_97, li_100, li_104, li_105, li_120, li_124, li_127, li_180, li_239, li_240, li_255, li_256, li_300, li_400, li_960, li_1000000]
      rcases hr_rel hV' hf' hh' hW (w := w) (by omega) 13 0 NF NF (by omega) (by decide) (by decide) with ⟨c1, c2⟩ | ⟨x, c1, c2⟩
      · refine Or.inl ⟨mI, σ, su τ 0 (fun _ => nI 0), e7.trans c1, ?_, rfl, hR _⟩
        have c2' : mX8_findHint (su τ 0 (fun _ => nI 0)) (nI f) = some (nI 0, su τ 0 (fun _ => nI 0)) := c2
        simp (implicitDefEqProofs := false) (disch := omega) only [mX8_hint, k8', g1, c2', ↓bnd_e, ↓ob_s, ob_s, su_1, su_2, sl_1, sl_2, ↓ck_n, ck_n, ck_Z0, ck_Z1, c_lt, c_le, c_eq, ng_1, m_ne, m_en, m_lt, m_le, m_gt, m_ge, n_add, n_mul, n_sub, n_sm, n_pm, n_0m, n_cl, Nat.reduceEqDiff, ↓reduceIte, nle_T, nle_F, nlt_T, nlt_F, neq_F, neq_T, if_true, if_false, true_and, and_true, Nat.mul_zero, Nat.zero_add, Nat.add_zero, Nat.reduceAdd, Nat.reduceMul, Nat.reduceSub, li_0, li_1, li_2, li_3, li_4, li_5, li_6, li_7, li_8, li_9, li_10, li_11, li_12, li_13, li_14, li_15, li_16, li_20, li_24, li_28, li_31, li_35, li_38, li_40, li_41, li_45, li_48, li_60, li_62, li_63, li_97, li_100, li_104, li_105, li_120, li_124, li_127, li_180, li_239, li_240, li_255, li_256, li_300, li_400, li_960, li_1000000]
      · refine Or.inl ⟨vec4 (σ.1 39) x w, _, su (su τ 0 (fun _ => nI 0)) 41 (vec4 ((su τ 0 (fun _ => nI 0)).1 41) x), e7.trans c1, ?_, rfl, h0.c (KE.rf.s (by decide)) rfl ((KE.rf.s (by decide)).s (by decide))⟩
        have c2' : mX8_findHint (su τ 0 (fun _ => nI 0)) (nI f) = some (nI 1, su (su τ 0 (fun _ => nI 0)) 41 (vec4 ((su τ 0 (fun _ => nI 0)).1 41) x)) := c2
        rw [vec4_w (σ.1 39) ((su τ 0 (fun _ => nI 0)).1 41) x (show w < 4 by omega)]
        simp (implicitDefEqProofs := false) (disch := omega) only [mX8_hint, k8', g1, c2', ↓bnd_e, ↓ob_s, ob_s, su_1, su_2, sl_1, sl_2, ↓ck_n, ck_n, ck_Z0, ck_Z1, c_lt, c_le, c_eq, ng_1, m_ne, m_en, m_lt, m_le, m_gt, m_ge, n_add, n_mul, n_sub, n_sm, n_pm, n_0m, n_cl, Nat.reduceEqDiff, ↓reduceIte, nle_T, nle_F, nlt_T, nlt_F, neq_F, neq_T, if_true, if_false, true_and, and_true, Nat.mul_zero, Nat.zero_add, Nat.add_zero, Nat.reduceAdd, Nat.reduceMul, Nat.reduceSub, li_0, li_1, li_2, li_3, li_4, li_5, li_6, li_7, li_8, li_9, li_10, li_11, li_12, li_13, li_14, li_15, li_16, li_20, li_24, li_28, li_31, li_35, li_38, li_40, li_41, li_45, li_48, li_60, li_62, li_63, li_97, li_100, li_104, li_105, li_120, li_124, li_127, li_180, li_239, li_240, li_255, li_256, li_300, li_400, li_960, li_1000000]
    · refine bad ?_ ?_
      · rcases ix3 p2 4 (by omega) with ⟨h, h'⟩ | ⟨h, h', _, h2, h3⟩ | ⟨j, hj, rfl⟩
        · simp (implicitDefEqProofs := false) (disch := omega) only [tX7_hint, k1, h, ↓bnd_e, ↓ob_s, ob_s, su_1, su_2, sl_1, sl_2, ↓ck_n, ck_n, ck_Z0, ck_Z1, c_lt, c_le, c_eq, ng_1, m_ne, m_en, m_lt, m_le, m_gt, m_ge, n_add, n_mul, n_sub, n_sm, n_pm, n_0m, n_cl, Nat.reduceEqDiff, ↓reduceIte, nle_T, nle_F, nlt_T, nlt_F, neq_F, neq_T, if_true, if_false, true_and, and_true, Nat.mul_zero, Nat.zero_add, Nat.add_zero, Nat.reduceAdd, Nat.reduceMul, Nat.reduceSub, li_0, li_1, li_2, li_3, li_4, li_5, li_6, li_7, li_8, li_9, li_10, li_11, li_12, li_13, li_14, li_15, li_16, li_20, li_24, li_28, li_31, li_35, li_38, li_40, li_41, li_45, li_48, li_60, li_62, li_63, li_97, li_100, li_104, li_105, li_120, li_124, li_127, li_180, li_239, li_240, li_255, li_256, li_300, li_400, li_960, li_1000000]
        · have := (h2 3 (by omega)).2.1
          simp (implicitDefEqProofs := false) (disch := omega) only [tX7_hint, k1, h, this, ↓bnd_e, ↓ob_s, ob_s, su_1, su_2, sl_1, sl_2, ↓ck_n, ck_n, ck_Z0, ck_Z1, c_lt, c_le, c_eq, ng_1, m_ne, m_en, m_lt, m_le, m_gt, m_ge, n_add, n_mul, n_sub, n_sm, n_pm, n_0m, n_cl, Nat.reduceEqDiff, ↓reduceIte, nle_T, nle_F, nlt_T, nlt_F, neq_F, neq_T, if_true, if_false, true_and, and_true, Nat.mul_zero, Nat.zero_add, Nat.add_zero, Nat.reduceAdd, Nat.reduceMul, Nat.reduceSub, li_0, li_1, li_2, li_3, li_4, li_5, li_6, li_7, li_8, li_9, li_10, li_11, li_12, li_13, li_14, li_15, li_16, li_20, li_24, li_28, li_31, li_35, li_38, li_40, li_41, li_45, li_48, li_60, li_62, li_63, li_97, li_100, li_104, li_105, li_120, li_124, li_127, li_180, li_239, li_240, li_255, li_256, li_300, li_400, li_960, li_1000000]
        · exact (gx ⟨j, by omega, rfl⟩).elim
      · simp (implicitDefEqProofs := false) (disch := omega) only [mX8_hint, mX8_hint_22, mX8_no, k8', g2, ↓bnd_e, ↓ob_s, ob_s, su_1, su_2, sl_1, sl_2, ↓ck_n, ck_n, ck_Z0, ck_Z1, c_lt, c_le, c_eq, ng_1, m_ne, m_en, m_lt, m_le, m_gt, m_ge, n_add, n_mul, n_sub, n_sm, n_pm, n_0m, n_cl, Nat.reduceEqDiff, ↓reduceIte, nle_T, nle_F, nlt_T, nlt_F, neq_F, neq_T, if_true, if_false, true_and, and_true, Nat.mul_zero, Nat.zero_add, Nat.add_zero, Nat.reduceAdd, Nat.reduceMul, Nat.reduceSub, li_0, li_1, li_2, li_3, li_4, li_5, li_6, li_7, li_8, li_9, li_10, li_11, li_12, li_13, li_14, li_15, li_16, li_20, li_24, li_28, li_31, li_35, li_38, li_40, li_41, li_45, li_48, li_60, li_62, li_63, li_97, li_100, li_104, li_105, li_120, li_124, li_127, li_180, li_239, li_240, li_255, li_256, li_300, li_400, li_960, li_1000000]
  · have k8' := k8 _ z5
    exact bad (by simp (implicitDefEqProofs := false) (disch := omega) only [tX7_hint, k1, ↓bnd_e, ↓ob_s, ob_s, su_1, su_2, sl_1, sl_2, ↓ck_n, ck_n, ck_Z0, ck_Z1, c_lt, c_le, c_eq, ng_1, m_ne, m_en, m_lt, m_le, m_gt, m_ge, n_add, n_mul, n_sub, n_sm, n_pm, n_0m, n_cl, Nat.reduceEqDiff, ↓reduceIte, nle_T, nle_F, nlt_T, nlt_F, neq_F, neq_T, if_true, if_false, true_and, and_true, Nat.mul_zero, Nat.zero_add, Nat.add_zero, Nat.reduceAdd, Nat.reduceMul, Nat.reduceSub, li_0, li_1, li_2, li_3, li_4, li_5, li_6, li_7, li_8, li_9, li_10, li_11, li_12, li_13, li_14, li_15, li_16, li_20, li_24, li_28, li_31, li_35, li_38, li_40, li_41, li_45, li_48, li_60, li_62, li_63, li_97, li_100, li_104, li_105, li_120, li_124, li_127, li_180, li_239, li_240, li_255, li_256, li_300, li_400, li_960, li_1000000]) (by simp (implicitDefEqProofs := false) (disch := omega) only [mX8_hint, mX8_hint_22, mX8_no, k8', ↓bnd_e, ↓ob_s, ob_s, su_1, su_2, sl_1, sl_2, ↓ck_n, ck_n, ck_Z0, ck_Z1, c_lt, c_le, c_eq, ng_1, m_ne, m_en, m_lt, m_le, m_gt, m_ge, n_add, n_mul, n_sub, n_sm, n_pm, n_0m, n_cl, Nat.reduceEqDiff, ↓reduceIte, nle_T, nle_F, nlt_T, nlt_F, neq_F, neq_T, if_true, if_false, true_and, and_true, Nat.mul_zero, Nat.zero_add, Nat.add_zero, Nat.reduceAdd, Nat.reduceMul, Nat.reduceSub, li_0, li_1, li_2, li_3, li_4, li_5, li_6, li_7, li_8, li_9, li_10, li_11, li_12, li_13, li_14, li_15, li_16, li_20, li_24, li_28, li_31, li_35, li_38, li_40, li_41, li_45, li_48, li_60, li_62, li_63, li_97, li_100, li_104, li_105, li_120, li_124, li_127, li_180, li_239, li_240, li_255, li_256, li_300, li_400, li_960, li_1000000])
