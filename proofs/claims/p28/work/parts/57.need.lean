def ixD (k : Nat) : Int32 := if k = 0 then mI else nI (k - 1)
theorem ixD_s (k : Nat) : ixD (k + 1) = nI k := rfl
theorem ixD_m (k : Nat) (hk : k < 2147483647) : nI k + (-1) = ixD k := by
  cases k with
  | zero => rfl
  | succ k => rw [ixD_s]; exact pk_m1 k
theorem ixD_1 (k : Nat) : nI k - 1 = ixD k := by
  cases k with
  | zero => rfl
  | succ k => rw [ixD_s]; exact nI_pred k
theorem need_init {L : Nat} (hL : L ≤ 60) : ∀ d k n n' (σ τ : St), k + d = L → d < n → d < n' → σ.1 8 0 = nI L → τ.1 6 0 = nI L → (∀ j, j < k → σ.1 34 j = zB (decide (j + 1 = L)) ∧ τ.1 40 j = zB (decide (j + 1 = L))) →
    ∃ σ' τ', mX3_neededCount_14 n σ (nI 0) (nI L) (nI k) = mX3_neededCount_43 σ' (nI 0) (nI L) ∧ mX8_look_2 n' τ (nI k) = mX8_look_37 τ' ∧ KE [34] σ σ' ∧ KE [40] τ τ' ∧ σ'.2 = σ.2 ∧
      ∀ j, j < L → σ'.1 34 j = zB (decide (j + 1 = L)) ∧ τ'.1 40 j = zB (decide (j + 1 = L)) := by
  intro d
  induction d with
  | zero =>
    intro k n n' σ τ hk hn hn' h8 h6 hj
    obtain ⟨n, rfl⟩ : ∃ m, n = m + 1 := ⟨n - 1, by omega⟩
    obtain ⟨n', rfl⟩ : ∃ m, n' = m + 1 := ⟨n' - 1, by omega⟩
    refine ⟨σ, τ, ?_, ?_, KE.rf, KE.rf, rfl, fun j hj2 => hj j (by omega)⟩
    · simp (disch := omega) only [fx_s, bX3_neededCount_14, ↓bnd_e, ↓ob_s, ob_s, su_1, su_2, sl_1, sl_2, ↓ck_n, ck_n, ck_Z0, ck_Z1, c_lt, c_le, c_eq, ng_1, m_ne, m_en, m_lt, m_le, m_gt, m_ge, n_add, n_mul, n_sub, n_sm, n_pm, n_0m, n_cl, Nat.reduceEqDiff, ↓reduceIte, nle_T, nle_F, nlt_T, nlt_F, neq_F, neq_T, if_true, if_false, true_and, and_true, Nat.mul_zero, Nat.zero_add, Nat.add_zero, Nat.reduceAdd, Nat.reduceMul, Nat.reduceSub, li_0, li_1, li_2, li_3, li_4, li_5, li_6, li_7, li_8, li_9, li_10, li_11, li_12, li_13, li_14, li_15, li_16, li_20, li_24, li_28, li_31, li_35, li_38, li_40, li_41, li_45, li_48, li_60, li_62, li_63, li_97, li_100, li_104, li_105, li_120, li_124, li_127, li_180, li_239, li_240, li_255, li_256, li_300, li_400, li_960, li_1000000]
    · simp (disch := omega) only [fx_s, bX8_look_2, h6, ↓bnd_e, ↓ob_s, ob_s, su_1, su_2, sl_1, sl_2, ↓ck_n, ck_n, ck_Z0, ck_Z1, c_lt, c_le, c_eq, ng_1, m_ne, m_en, m_lt, m_le, m_gt, m_ge, n_add, n_mul, n_sub, n_sm, n_pm, n_0m, n_cl, Nat.reduceEqDiff, ↓reduceIte, nle_T, nle_F, nlt_T, nlt_F, neq_F, neq_T, if_true, if_false, true_and, and_true, Nat.mul_zero, Nat.zero_add, Nat.add_zero, Nat.reduceAdd, Nat.reduceMul, Nat.reduceSub, li_0, li_1, li_2, li_3, li_4, li_5, li_6, li_7, li_8, li_9, li_10, li_11, li_12, li_13, li_14, li_15, li_16, li_20, li_24, li_28, li_31, li_35, li_38, li_40, li_41, li_45, li_48, li_60, li_62, li_63, li_97, li_100, li_104, li_105, li_120, li_124, li_127, li_180, li_239, li_240, li_255, li_256, li_300, li_400, li_960, li_1000000]
  | succ d ih =>
    intro k n n' σ τ hk hn hn' h8 h6 hj
    obtain ⟨n, rfl⟩ : ∃ m, n = m + 1 := ⟨n - 1, by omega⟩
    obtain ⟨n', rfl⟩ : ∃ m, n' = m + 1 := ⟨n' - 1, by omega⟩
    obtain ⟨σ', τ', a1, a2, a3, a4, aq, a5⟩ := ih (k + 1) n n' (su σ 34 (upd (σ.1 34) k (zB (decide (k + 1 = L))))) (su τ 40 (upd (τ.1 40) k (zB (decide (k + 1 = L))))) (by omega) (by omega) (by omega) h8 h6
      (fun j hj2 => by
        rw [su_1, if_pos rfl, su_1, if_pos rfl, up_1, up_1]
        by_cases e : j = k
        · rw [if_pos e, if_pos e, e]; exact ⟨rfl, rfl⟩
        · rw [if_neg e, if_neg e]; exact hj j (by omega))
    refine ⟨σ', τ', ?_, ?_, (KE.rf.s (by decide)).tr a3, (KE.rf.s (by decide)).tr a4, aq, a5⟩
    · rw [← a1]
      by_cases e : k + 1 = L
      · have e2 : k = L - 1 := by omega
        have hz : zB (decide (k + 1 = L)) = nI 1 := by simp [e, zB]
        rw [hz]
        simp (disch := omega) only [fx_s, bX3_neededCount_14, mX3_neededCount_36, vz_1, ↓bnd_e, ↓ob_s, ob_s, su_1, su_2, sl_1, sl_2, ↓ck_n, ck_n, ck_Z0, ck_Z1, c_lt, c_le, c_eq, ng_1, m_ne, m_en, m_lt, m_le, m_gt, m_ge, n_add, n_mul, n_sub, n_sm, n_pm, n_0m, n_cl, Nat.reduceEqDiff, ↓reduceIte, nle_T, nle_F, nlt_T, nlt_F, neq_F, neq_T, if_true, if_false, true_and, and_true, Nat.mul_zero, Nat.zero_add, Nat.add_zero, Nat.reduceAdd, Nat.reduceMul, Nat.reduceSub, li_0, li_1, li_2, li_3, li_4, li_5, li_6, li_7, li_8, li_9, li_10, li_11, li_12, li_13, li_14, li_15, li_16, li_20, li_24, li_28, li_31, li_35, li_38, li_40, li_41, li_45, li_48, li_60, li_62, li_63, li_97, li_100, li_104, li_105, li_120, li_124, li_127, li_180, li_239, li_240, li_255, li_256, li_300, li_400, li_960, li_1000000]
      · have hz : zB (decide (k + 1 = L)) = nI 0 := by simp [e, zB]
        rw [hz]
        simp (disch := omega) only [fx_s, bX3_neededCount_14, mX3_neededCount_36, vz_0, ↓bnd_e, ↓ob_s, ob_s, su_1, su_2, sl_1, sl_2, ↓ck_n, ck_n, ck_Z0, ck_Z1, c_lt, c_le, c_eq, ng_1, m_ne, m_en, m_lt, m_le, m_gt, m_ge, n_add, n_mul, n_sub, n_sm, n_pm, n_0m, n_cl, Nat.reduceEqDiff, ↓reduceIte, nle_T, nle_F, nlt_T, nlt_F, neq_F, neq_T, if_true, if_false, true_and, and_true, Nat.mul_zero, Nat.zero_add, Nat.add_zero, Nat.reduceAdd, Nat.reduceMul, Nat.reduceSub, li_0, li_1, li_2, li_3, li_4, li_5, li_6, li_7, li_8, li_9, li_10, li_11, li_12, li_13, li_14, li_15, li_16, li_20, li_24, li_28, li_31, li_35, li_38, li_40, li_41, li_45, li_48, li_60, li_62, li_63, li_97, li_100, li_104, li_105, li_120, li_124, li_127, li_180, li_239, li_240, li_255, li_256, li_300, li_400, li_960, li_1000000]
    · rw [← a2]
      by_cases e : k + 1 = L
      · have hz : zB (decide (k + 1 = L)) = nI 1 := by simp [e, zB]
        rw [hz]
        simp (disch := omega) only [fx_s, bX8_look_2, mX8_look_30, h6, vz_1, ↓bnd_e, ↓ob_s, ob_s, su_1, su_2, sl_1, sl_2, ↓ck_n, ck_n, ck_Z0, ck_Z1, c_lt, c_le, c_eq, ng_1, m_ne, m_en, m_lt, m_le, m_gt, m_ge, n_add, n_mul, n_sub, n_sm, n_pm, n_0m, n_cl, Nat.reduceEqDiff, ↓reduceIte, nle_T, nle_F, nlt_T, nlt_F, neq_F, neq_T, if_true, if_false, true_and, and_true, Nat.mul_zero, Nat.zero_add, Nat.add_zero, Nat.reduceAdd, Nat.reduceMul, Nat.reduceSub, li_0, li_1, li_2, li_3, li_4, li_5, li_6, li_7, li_8, li_9, li_10, li_11, li_12, li_13, li_14, li_15, li_16, li_20, li_24, li_28, li_31, li_35, li_38, li_40, li_41, li_45, li_48, li_60, li_62, li_63, li_97, li_100, li_104, li_105, li_120, li_124, li_127, li_180, li_239, li_240, li_255, li_256, li_300, li_400, li_960, li_1000000]
      · have hz : zB (decide (k + 1 = L)) = nI 0 := by simp [e, zB]
        rw [hz]
        simp (disch := omega) only [fx_s, bX8_look_2, mX8_look_30, h6, vz_0, ↓bnd_e, ↓ob_s, ob_s, su_1, su_2, sl_1, sl_2, ↓ck_n, ck_n, ck_Z0, ck_Z1, c_lt, c_le, c_eq, ng_1, m_ne, m_en, m_lt, m_le, m_gt, m_ge, n_add, n_mul, n_sub, n_sm, n_pm, n_0m, n_cl, Nat.reduceEqDiff, ↓reduceIte, nle_T, nle_F, nlt_T, nlt_F, neq_F, neq_T, if_true, if_false, true_and, and_true, Nat.mul_zero, Nat.zero_add, Nat.add_zero, Nat.reduceAdd, Nat.reduceMul, Nat.reduceSub, li_0, li_1, li_2, li_3, li_4, li_5, li_6, li_7, li_8, li_9, li_10, li_11, li_12, li_13, li_14, li_15, li_16, li_20, li_24, li_28, li_31, li_35, li_38, li_40, li_41, li_45, li_48, li_60, li_62, li_63, li_97, li_100, li_104, li_105, li_120, li_124, li_127, li_180, li_239, li_240, li_255, li_256, li_300, li_400, li_960, li_1000000]
theorem need_down {T L B : Nat} : ∀ k n n' c (σ τ : St), k ≤ L → k < n → k < n' → c + k ≤ 60 → LQ T L B σ τ → NE L σ τ →
    ∃ c' σ' τ', mX3_neededCount_47 n σ (nI c) (ixD k) = some (nI c', σ') ∧ mX8_look_46 n' τ (nI c) (ixD k) = some (nI c', τ') ∧ c ≤ c' ∧ c' ≤ c + k ∧ KE [34] σ σ' ∧ KE [40] τ τ' ∧ σ'.2 = σ.2 ∧ NE L σ' τ' ∧
      (∀ i, k = i + 1 → τ.1 40 i = nI 1 → c < c') := by
  intro k
  induction k with
  | zero =>
    intro n n' c σ τ hk hn hn' hc hQ hN
    obtain ⟨n, rfl⟩ : ∃ m, n = m + 1 := ⟨n - 1, by omega⟩
    obtain ⟨n', rfl⟩ : ∃ m, n' = m + 1 := ⟨n' - 1, by omega⟩
    exact ⟨c, σ, τ, rfl, rfl, by omega, by omega, KE.rf, KE.rf, rfl, hN, fun i hi => by omega⟩
  | succ k ih =>
    intro n n' c σ τ hk hn hn' hc hQ hN
    obtain ⟨n, rfl⟩ : ∃ m, n = m + 1 := ⟨n - 1, by omega⟩
    obtain ⟨n', rfl⟩ : ∃ m, n' = m + 1 := ⟨n' - 1, by omega⟩
    obtain ⟨e1, e2⟩ := hN k (by omega)
    have hix := ixD_m k (by omega)
    rw [ixD_s]
    rcases e2 with e2 | e2
    · rw [e2] at e1
      obtain ⟨c', σ', τ', a1, a2, a3, a4, a5, a6, aq, a7, a8⟩ := ih n n' c σ τ (by omega) (by omega) (by omega) (by omega) hQ hN
      refine ⟨c', σ', τ', ?_, ?_, a3, by omega, a5, a6, aq, a7, fun i hi h1 => ?_⟩
      · rw [← a1, ← hix]
        simp (disch := omega) only [fx_s, bX3_neededCount_47, mX3_neededCount_68, e1, ↓bnd_e, ↓ob_s, ob_s, su_1, su_2, sl_1, sl_2, ↓ck_n, ck_n, ck_Z0, ck_Z1, c_lt, c_le, c_eq, ng_1, m_ne, m_en, m_lt, m_le, m_gt, m_ge, n_add, n_mul, n_sub, n_sm, n_pm, n_0m, n_cl, Nat.reduceEqDiff, ↓reduceIte, nle_T, nle_F, nlt_T, nlt_F, neq_F, neq_T, if_true, if_false, true_and, and_true, Nat.mul_zero, Nat.zero_add, Nat.add_zero, Nat.reduceAdd, Nat.reduceMul, Nat.reduceSub, li_0, li_1, li_2, li_3, li_4, li_5, li_6, li_7, li_8, li_9, li_10, li_11, li_12, li_13, li_14, li_15, li_16, li_20, li_24, li_28, li_31, li_35, li_38, li_40, li_41, li_45, li_48, li_60, li_62, li_63, li_97, li_100, li_104, li_105, li_120, li_124, li_127, li_180, li_239, li_240, li_255, li_256, li_300, li_400, li_960, li_1000000]
      · rw [← a2, ← hix]
        simp (disch := omega) only [fx_s, bX8_look_46, mX8_look_153, e2, ↓bnd_e, ↓ob_s, ob_s, su_1, su_2, sl_1, sl_2, ↓ck_n, ck_n, ck_Z0, ck_Z1, c_lt, c_le, c_eq, ng_1, m_ne, m_en, m_lt, m_le, m_gt, m_ge, n_add, n_mul, n_sub, n_sm, n_pm, n_0m, n_cl, Nat.reduceEqDiff, ↓reduceIte, nle_T, nle_F, nlt_T, nlt_F, neq_F, neq_T, if_true, if_false, true_and, and_true, Nat.mul_zero, Nat.zero_add, Nat.add_zero, Nat.reduceAdd, Nat.reduceMul, Nat.reduceSub, li_0, li_1, li_2, li_3, li_4, li_5, li_6, li_7, li_8, li_9, li_10, li_11, li_12, li_13, li_14, li_15, li_16, li_20, li_24, li_28, li_31, li_35, li_38, li_40, li_41, li_45, li_48, li_60, li_62, li_63, li_97, li_100, li_104, li_105, li_120, li_124, li_127, li_180, li_239, li_240, li_255, li_256, li_300, li_400, li_960, li_1000000]
      · have : i = k := by omega
        subst this
        rw [e2] at h1; exact absurd h1 (by decide)
    · rw [e2] at e1
      obtain ⟨σ1, τ1, b1, b2, b3, bq, b4, b5⟩ := refs_rel hQ hN (k := k) (by omega)
      obtain ⟨c', σ', τ', a1, a2, a3, a4, a5, a6, aq, a7, a8⟩ := ih n n' (c + 1) σ1 τ1 (by omega) (by omega) (by omega) (by omega) (hQ.k b2 (b3.wk (by decide))) b4
      refine ⟨c', σ', τ', ?_, ?_, by omega, by omega, b2.tr a5, b3.tr a6, aq.trans bq, a7, fun i hi h1 => by omega⟩
      · rw [← a1, ← hix]
        simp (disch := omega) only [fx_s, bX3_neededCount_47, mX3_neededCount_68, e1, b1, ↓bnd_e, ↓ob_s, ob_s, su_1, su_2, sl_1, sl_2, ↓ck_n, ck_n, ck_Z0, ck_Z1, c_lt, c_le, c_eq, ng_1, m_ne, m_en, m_lt, m_le, m_gt, m_ge, n_add, n_mul, n_sub, n_sm, n_pm, n_0m, n_cl, Nat.reduceEqDiff, ↓reduceIte, nle_T, nle_F, nlt_T, nlt_F, neq_F, neq_T, if_true, if_false, true_and, and_true, Nat.mul_zero, Nat.zero_add, Nat.add_zero, Nat.reduceAdd, Nat.reduceMul, Nat.reduceSub, li_0, li_1, li_2, li_3, li_4, li_5, li_6, li_7, li_8, li_9, li_10, li_11, li_12, li_13, li_14, li_15, li_16, li_20, li_24, li_28, li_31, li_35, li_38, li_40, li_41, li_45, li_48, li_60, li_62, li_63, li_97, li_100, li_104, li_105, li_120, li_124, li_127, li_180, li_239, li_240, li_255, li_256, li_300, li_400, li_960, li_1000000]
      · rw [← a2, ← hix]
        have q := b5 (fun s => mX8_look_153 (fx (fun _ _ _ => none) bX8_look_46 n') s (nI c + 1) (nI k))
        show bX8_look_46 (mX8_look_46 n') τ (nI c) (nI k) = mX8_look_46 n' τ1 (nI (c + 1)) (nI k + -1)
        unfold bX8_look_46
        have p1 : ¬ nI k < 0 := by rw [show (0 : Int32) = nI 0 from rfl, c_lt (by omega) (by omega)]; omega
        have p2 : ¬ τ.1 40 (nI k).toNatClampNeg = 0 := by rw [n_cl (by omega), e2]; decide
        have hL60 := hQ.1.1
        rw [if_neg p1, ck_n _ (by omega) (by omega), if_neg p2, bnd_e]
        refine q.trans ?_
        rw [show nI c + 1 = nI (c + 1) from nI_1 c]
        rfl
theorem LQ.zi {T L B : Nat} {σ τ : St} (h : LQ T L B σ τ) : ∃ c σ' τ', mX3_neededCount σ = some (nI c, σ') ∧ mX8_look τ = some (nI c, τ') ∧ c ≤ L ∧ KE [34] σ σ' ∧ KE [40] τ τ' ∧ σ'.2 = σ.2 ∧ NE L σ' τ' ∧ (0 < L → 0 < c) := by
  have hL := h.1.1
  obtain ⟨σ1, τ1, a1, a2, a3, a4, aq, a5⟩ := need_init hL L 0 NF NF σ τ (by omega) (by show L < 1000; omega) (by show L < 1000; omega) h.1.2.2.2.1 h.1.2.2.2.2.1 (fun j hj => absurd hj (by omega))
  have hN : NE L σ1 τ1 := fun k hk => by
    obtain ⟨x, y⟩ := a5 k hk
    rw [x, y]
    exact ⟨rfl, by by_cases e : k + 1 = L <;> simp [e, zB]⟩
  obtain ⟨c, σ', τ', b1, b2, b3, b4, b5, b6, bq, b7, b8⟩ := need_down L NF NF 0 σ1 τ1 (by omega) (by show L < 1000; omega) (by show L < 1000; omega) (by omega) (h.k a3 (a4.wk (by decide))) hN
  refine ⟨c, σ', τ', ?_, ?_, by omega, a3.tr b5, a4.tr b6, bq.trans aq, b7, fun h0 => ?_⟩
  · rw [← b1]
    have e : mX3_neededCount σ = mX3_neededCount_14 NF σ (nI 0) (nI L) (nI 0) := by
      by_cases h60 : L < 60
      · simp (disch := omega) only [mX3_neededCount, h.1.2.2.2.1, ↓bnd_e, ↓ob_s, ob_s, su_1, su_2, sl_1, sl_2, ↓ck_n, ck_n, ck_Z0, ck_Z1, c_lt, c_le, c_eq, ng_1, m_ne, m_en, m_lt, m_le, m_gt, m_ge, n_add, n_mul, n_sub, n_sm, n_pm, n_0m, n_cl, Nat.reduceEqDiff, ↓reduceIte, nle_T, nle_F, nlt_T, nlt_F, neq_F, neq_T, if_true, if_false, true_and, and_true, Nat.mul_zero, Nat.zero_add, Nat.add_zero, Nat.reduceAdd, Nat.reduceMul, Nat.reduceSub, li_0, li_1, li_2, li_3, li_4, li_5, li_6, li_7, li_8, li_9, li_10, li_11, li_12, li_13, li_14, li_15, li_16, li_20, li_24, li_28, li_31, li_35, li_38, li_40, li_41, li_45, li_48, li_60, li_62, li_63, li_97, li_100, li_104, li_105, li_120, li_124, li_127, li_180, li_239, li_240, li_255, li_256, li_300, li_400, li_960, li_1000000]
      · have : L = 60 := by omega
        subst this
        simp (disch := omega) only [mX3_neededCount, h.1.2.2.2.1, ↓bnd_e, ↓ob_s, ob_s, su_1, su_2, sl_1, sl_2, ↓ck_n, ck_n, ck_Z0, ck_Z1, c_lt, c_le, c_eq, ng_1, m_ne, m_en, m_lt, m_le, m_gt, m_ge, n_add, n_mul, n_sub, n_sm, n_pm, n_0m, n_cl, Nat.reduceEqDiff, ↓reduceIte, nle_T, nle_F, nlt_T, nlt_F, neq_F, neq_T, if_true, if_false, true_and, and_true, Nat.mul_zero, Nat.zero_add, Nat.add_zero, Nat.reduceAdd, Nat.reduceMul, Nat.reduceSub, li_0, li_1, li_2, li_3, li_4, li_5, li_6, li_7, li_8, li_9, li_10, li_11, li_12, li_13, li_14, li_15, li_16, li_20, li_24, li_28, li_31, li_35, li_38, li_40, li_41, li_45, li_48, li_60, li_62, li_63, li_97, li_100, li_104, li_105, li_120, li_124, li_127, li_180, li_239, li_240, li_255, li_256, li_300, li_400, li_960, li_1000000]
    rw [e, a1]
    unfold mX3_neededCount_43
    rw [ixD_1]; rfl
  · rw [← b2]
    have e : mX8_look τ = mX8_look_2 NF τ (nI 0) := rfl
    rw [e, a2]
    unfold mX8_look_37
    rw [a4 6 (by decide), h.1.2.2.2.2.1]
    rw [ixD_1]; rfl
  · have := b8 (L - 1) (by omega) (by rw [(a5 (L - 1) (by omega)).2]; have : L - 1 + 1 = L := by omega
                                      simp [this, zB])
    omega
theorem RV.lq {F T : Nat} {σ τ : St} (hh : RH F T σ τ) {L B n O : Nat} {inn : Int32} {e : Nat → Int32}
    (h1 : σ.1 8 0 = nI L) (h2 : τ.1 6 0 = nI L) (h3 : σ.1 9 0 = nI B) (h36 : σ.1 36 = τ.1 25) (h37 : σ.1 37 = τ.1 26) (h31 : σ.1 31 = τ.1 23)
    (hk : ∀ k, k < L → ∀ r, r ≤ 15 → τ.1 22 k = nI r → ∀ w, w < 3 → σ.1 32 (3 * k + w) = nI (kdN τ.1 r (τ.1 23 (3 * k)).toNatClampNeg w))
    (hI : Inv F T L B O inn τ.1 (τ.1 26)) : LQ T L B σ τ := by
  obtain ⟨⟨i1, i2, i3⟩, i4, _, _, i5, _⟩ := hI
  refine ⟨⟨i1, by omega, hh.1.1, h1, h2, h3, hh.1.2.2⟩, ⟨h36, h37, h31⟩, fun b hb => ?_, fun k hk2 => ?_⟩
  · obtain ⟨_, j, j1, j2, _⟩ := i5 b hb
    exact ⟨j, j1, j2⟩
  · obtain ⟨_, _, r, r1, r2, r3, r4⟩ := i4 k hk2
    refine ⟨r, r1, r2, fun hr => ?_, fun w hw => ⟨hk k hk2 r r1 r2 w hw, ?_, (r4 w hw).1, (r4 w hw).2⟩⟩
    · obtain ⟨a, a1, a2⟩ := r3 hr
      obtain ⟨m, m1, m2, _⟩ := (hh.2.2 a a1).2.2.2.1
      exact ⟨a, a1, a2, m, m1, m2⟩
    · unfold kdN
      by_cases h13 : r = 13
      · rw [if_pos h13]
        by_cases w0 : w = 0
        · rw [if_pos w0]; omega
        · rw [if_neg w0]; split <;> omega
      · rw [if_neg h13]; exact (kk_v _ (by omega)).2
