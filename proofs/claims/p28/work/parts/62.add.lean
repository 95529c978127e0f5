def kdM (r m w : Nat) : Nat := if r = 13 then (if w = 0 then 3 else if w ≤ m then 1 else 0) else KT.getD (3 * r + w) 0
theorem kdM_3 (r m w : Nat) (hr : r ≤ 15) (hw : w < 3) : kdM r m w ≤ 3 := by
  unfold kdM
  by_cases h : r = 13
  · rw [if_pos h]
    by_cases w0 : w = 0
    · rw [if_pos w0]; omega
    · rw [if_neg w0]; split <;> omega
  · rw [if_neg h]; exact (kk_v _ (by omega)).2
theorem prem_c {σ s : St} (h6 : s.1 6 = σ.1 6) (h23 : s.1 23 = σ.1 23) (h24 : s.1 24 = σ.1 24) (x : Int32) : mX6_premises s x = mX6_premises σ x := by
  unfold mX6_premises mX6_premises_26
  rw [h6, h23, h24]
theorem x6_prem {F T : Nat} {σ τ : St} (hF : F ≤ 240) (hh : RH F T σ τ) (x : Int32) : (∃ t m, t < T ∧ x = nI t ∧ m ≤ 2 ∧ τ.1 30 t = nI m ∧ mX6_premises σ x = some (nI m) ∧ mX6_isKnown σ x = some (nI 1)) ∨
    ((∀ t, t < T → x ≠ nI t) ∧ mX6_premises σ x = some (nI 0) ∧ mX6_isKnown σ x = some (nI 0)) := by
  obtain ⟨⟨hT, h6, h10⟩, _, ht⟩ := hh
  rcases ix3 x T (by omega) with ⟨h, h'⟩ | ⟨h, h', _, h2, _⟩ | ⟨t, htT, rfl⟩
  · refine Or.inr ⟨fun t ht => (h' t (by omega)).2, ?_, ?_⟩
    · simp (implicitDefEqProofs := false) (disch := omega) only [mX6_premises, h, ↓bnd_e, ↓ob_s, ob_s, su_1, su_2, sl_1, sl_2, ↓ck_n, ck_n, ck_Z0, ck_Z1, c_lt, c_le, c_eq, ng_1, m_ne, m_en, m_lt, m_le, m_gt, m_ge, n_add, n_mul, n_sub, n_sm, n_pm, n_0m, n_cl, Nat.reduceEqDiff, ↓reduceIte, nle_T, nle_F, nlt_T, nlt_F, neq_F, neq_T, if_true, if_false, true_and, and_true, Nat.mul_zero, Nat.zero_add, Nat.add_zero, Nat.reduceAdd, Nat.reduceMul, Nat.reduceSub, li_0, li_1, li_2, li_3, li_4, li_5, li_6, li_7, li_8, li_9, li_10, li_11, li_12, li_13, li_14, li_15, li_16, li_20, li_24, li_28, li_31, li_35, li_38, li_40, li_41, li_45, li_48, li_60, li_62, li_63, li_97, li_100, li_104, li_105, li_120, li_124, li_127, li_180, li_239, li_240, li_255, li_256, li_300, li_400, li_960, li_1000000]
    · simp (implicitDefEqProofs := false) (disch := omega) only [mX6_isKnown, h, ↓bnd_e, ↓ob_s, ob_s, su_1, su_2, sl_1, sl_2, ↓ck_n, ck_n, ck_Z0, ck_Z1, c_lt, c_le, c_eq, ng_1, m_ne, m_en, m_lt, m_le, m_gt, m_ge, n_add, n_mul, n_sub, n_sm, n_pm, n_0m, n_cl, Nat.reduceEqDiff, ↓reduceIte, nle_T, nle_F, nlt_T, nlt_F, neq_F, neq_T, if_true, if_false, true_and, and_true, Nat.mul_zero, Nat.zero_add, Nat.add_zero, Nat.reduceAdd, Nat.reduceMul, Nat.reduceSub, li_0, li_1, li_2, li_3, li_4, li_5, li_6, li_7, li_8, li_9, li_10, li_11, li_12, li_13, li_14, li_15, li_16, li_20, li_24, li_28, li_31, li_35, li_38, li_40, li_41, li_45, li_48, li_60, li_62, li_63, li_97, li_100, li_104, li_105, li_120, li_124, li_127, li_180, li_239, li_240, li_255, li_256, li_300, li_400, li_960, li_1000000]
  · refine Or.inr ⟨fun t ht => (h2 t ht).2.2, ?_, ?_⟩
    · simp (implicitDefEqProofs := false) (disch := omega) only [mX6_premises, h6, h, h', ↓bnd_e, ↓ob_s, ob_s, su_1, su_2, sl_1, sl_2, ↓ck_n, ck_n, ck_Z0, ck_Z1, c_lt, c_le, c_eq, ng_1, m_ne, m_en, m_lt, m_le, m_gt, m_ge, n_add, n_mul, n_sub, n_sm, n_pm, n_0m, n_cl, Nat.reduceEqDiff, ↓reduceIte, nle_T, nle_F, nlt_T, nlt_F, neq_F, neq_T, if_true, if_false, true_and, and_true, Nat.mul_zero, Nat.zero_add, Nat.add_zero, Nat.reduceAdd, Nat.reduceMul, Nat.reduceSub, li_0, li_1, li_2, li_3, li_4, li_5, li_6, li_7, li_8, li_9, li_10, li_11, li_12, li_13, li_14, li_15, li_16, li_20, li_24, li_28, li_31, li_35, li_38, li_40, li_41, li_45, li_48, li_60, li_62, li_63, li_97, li_100, li_104, li_105, li_120, li_124, li_127, li_180, li_239, li_240, li_255, li_256, li_300, li_400, li_960, li_1000000]
    · simp (implicitDefEqProofs := false) (disch := omega) only [mX6_isKnown, h6, h, h', ↓bnd_e, ↓ob_s, ob_s, su_1, su_2, sl_1, sl_2, ↓ck_n, ck_n, ck_Z0, ck_Z1, c_lt, c_le, c_eq, ng_1, m_ne, m_en, m_lt, m_le, m_gt, m_ge, n_add, n_mul, n_sub, n_sm, n_pm, n_0m, n_cl, Nat.reduceEqDiff, ↓reduceIte, nle_T, nle_F, nlt_T, nlt_F, neq_F, neq_T, if_true, if_false, true_and, and_true, Nat.mul_zero, Nat.zero_add, Nat.add_zero, Nat.reduceAdd, Nat.reduceMul, Nat.reduceSub, li_0, li_1, li_2, li_3, li_4, li_5, li_6, li_7, li_8, li_9, li_10, li_11, li_12, li_13, li_14, li_15, li_16, li_20, li_24, li_28, li_31, li_35, li_38, li_40, li_41, li_45, li_48, li_60, li_62, li_63, li_97, li_100, li_104, li_105, li_120, li_124, li_127, li_180, li_239, li_240, li_255, li_256, li_300, li_400, li_960, li_1000000]
  · obtain ⟨_, e1, e2, ⟨m, m1, m2, m3⟩, _⟩ := ht t htT
    refine Or.inl ⟨t, m, htT, rfl, m1, m2, ?_, ?_⟩
    · have w0 := m3 0 (by omega)
      have w1 := m3 1 (by omega)
      rw [Nat.add_zero, ← e1] at w0
      rw [← e2] at w1
      have h012 : m = 0 ∨ m = 1 ∨ m = 2 := by omega
      have mlt : mI < nI 0 := by decide
      rcases h012 with rfl | rfl | rfl
      · have w0' : σ.1 23 t = mI := w0
        have w1' : σ.1 24 t = mI := w1
        simp (implicitDefEqProofs := false) (disch := omega) only [mX6_premises, mX6_premises_26, h6, w0', w1', mlt, ↓bnd_e, ↓ob_s, ob_s, su_1, su_2, sl_1, sl_2, ↓ck_n, ck_n, ck_Z0, ck_Z1, c_lt, c_le, c_eq, ng_1, m_ne, m_en, m_lt, m_le, m_gt, m_ge, n_add, n_mul, n_sub, n_sm, n_pm, n_0m, n_cl, Nat.reduceEqDiff, ↓reduceIte, nle_T, nle_F, nlt_T, nlt_F, neq_F, neq_T, if_true, if_false, true_and, and_true, Nat.mul_zero, Nat.zero_add, Nat.add_zero, Nat.reduceAdd, Nat.reduceMul, Nat.reduceSub, li_0, li_1, li_2, li_3, li_4, li_5, li_6, li_7, li_8, li_9, li_10, li_11, li_12, li_13, li_14, li_15, li_16, li_20, li_24, li_28, li_31, li_35, li_38, li_40, li_41, li_45, li_48, li_60, li_62, li_63, li_97, li_100, li_104, li_105, li_120, li_124, li_127, li_180, li_239, li_240, li_255, li_256, li_300, li_400, li_960, li_1000000]
      · obtain ⟨f, f1, w0'⟩ : ∃ f, f < F ∧ σ.1 23 t = nI f := w0
        have w1' : σ.1 24 t = mI := w1
        simp (implicitDefEqProofs := false) (disch := omega) only [mX6_premises, mX6_premises_26, h6, w0', w1', mlt, ↓bnd_e, ↓ob_s, ob_s, su_1, su_2, sl_1, sl_2, ↓ck_n, ck_n, ck_Z0, ck_Z1, c_lt, c_le, c_eq, ng_1, m_ne, m_en, m_lt, m_le, m_gt, m_ge, n_add, n_mul, n_sub, n_sm, n_pm, n_0m, n_cl, Nat.reduceEqDiff, ↓reduceIte, nle_T, nle_F, nlt_T, nlt_F, neq_F, neq_T, if_true, if_false, true_and, and_true, Nat.mul_zero, Nat.zero_add, Nat.add_zero, Nat.reduceAdd, Nat.reduceMul, Nat.reduceSub, li_0, li_1, li_2, li_3, li_4, li_5, li_6, li_7, li_8, li_9, li_10, li_11, li_12, li_13, li_14, li_15, li_16, li_20, li_24, li_28, li_31, li_35, li_38, li_40, li_41, li_45, li_48, li_60, li_62, li_63, li_97, li_100, li_104, li_105, li_120, li_124, li_127, li_180, li_239, li_240, li_255, li_256, li_300, li_400, li_960, li_1000000]
      · obtain ⟨f, f1, w0'⟩ : ∃ f, f < F ∧ σ.1 23 t = nI f := w0
        obtain ⟨f', f1', w1'⟩ : ∃ f, f < F ∧ σ.1 24 t = nI f := w1
        simp (implicitDefEqProofs := false) (disch := omega) only [mX6_premises, mX6_premises_26, h6, w0', w1', ↓bnd_e, ↓ob_s, ob_s, su_1, su_2, sl_1, sl_2, ↓ck_n, ck_n, ck_Z0, ck_Z1, c_lt, c_le, c_eq, ng_1, m_ne, m_en, m_lt, m_le, m_gt, m_ge, n_add, n_mul, n_sub, n_sm, n_pm, n_0m, n_cl, Nat.reduceEqDiff, ↓reduceIte, nle_T, nle_F, nlt_T, nlt_F, neq_F, neq_T, if_true, if_false, true_and, and_true, Nat.mul_zero, Nat.zero_add, Nat.add_zero, Nat.reduceAdd, Nat.reduceMul, Nat.reduceSub, li_0, li_1, li_2, li_3, li_4, li_5, li_6, li_7, li_8, li_9, li_10, li_11, li_12, li_13, li_14, li_15, li_16, li_20, li_24, li_28, li_31, li_35, li_38, li_40, li_41, li_45, li_48, li_60, li_62, li_63, li_97, li_100, li_104, li_105, li_120, li_124, li_127, li_180, li_239, li_240, li_255, li_256, li_300, li_400, li_960, li_1000000]
    · simp (implicitDefEqProofs := false) (disch := omega) only [mX6_isKnown, h6, ↓bnd_e, ↓ob_s, ob_s, su_1, su_2, sl_1, sl_2, ↓ck_n, ck_n, ck_Z0, ck_Z1, c_lt, c_le, c_eq, ng_1, m_ne, m_en, m_lt, m_le, m_gt, m_ge, n_add, n_mul, n_sub, n_sm, n_pm, n_0m, n_cl, Nat.reduceEqDiff, ↓reduceIte, nle_T, nle_F, nlt_T, nlt_F, neq_F, neq_T, if_true, if_false, true_and, and_true, Nat.mul_zero, Nat.zero_add, Nat.add_zero, Nat.reduceAdd, Nat.reduceMul, Nat.reduceSub, li_0, li_1, li_2, li_3, li_4, li_5, li_6, li_7, li_8, li_9, li_10, li_11, li_12, li_13, li_14, li_15, li_16, li_20, li_24, li_28, li_31, li_35, li_38, li_40, li_41, li_45, li_48, li_60, li_62, li_63, li_97, li_100, li_104, li_105, li_120, li_124, li_127, li_180, li_239, li_240, li_255, li_256, li_300, li_400, li_960, li_1000000]
theorem x3_kind {s : St} {r m w : Nat} {x : Int32} (hr : r ≤ 15) (hw : w < 3) (hm : r = 13 → m ≤ 2 ∧ mX6_premises s x = some (nI m)) : mX3_kind s (nI r) (nI w) x = some (nI (kdM r m w)) := by
  have k20 : mX3_kind_20 s (nI r) (nI w) = some (nI (KT.getD (3 * r + w) 0)) := by
    have := (kk_v (3 * r + w) (by omega)).1
    simp (implicitDefEqProofs := false) (disch := omega) only [mX3_kind_20, this, ↓bnd_e, ↓ob_s, ob_s, su_1, su_2, sl_1, sl_2, ↓ck_n, ck_n, ck_Z0, ck_Z1, c_lt, c_le, c_eq, ng_1, m_ne, m_en, m_lt, m_le, m_gt, m_ge, n_add, n_mul, n_sub, n_sm, n_pm, n_0m, n_cl, Nat.reduceEqDiff, ↓reduceIte, nle_T, nle_F, nlt_T, nlt_F, neq_F, neq_T, if_true, if_false, true_and, and_true, Nat.mul_zero, Nat.zero_add, Nat.add_zero, Nat.reduceAdd, Nat.reduceMul, Nat.reduceSub, li_0, li_1, li_2, li_3, li_4, li_5, li_6, li_7, li_8, li_9, li_10, li_11, li_12, li_13, li_14, li_15, li_16, li_20, li_24, li_28, li_31, li_35, li_38, li_40, li_41, li_45, li_48, li_60, li_62, li_63, li_97, li_100, li_104, li_105, li_120, li_124, li_127, li_180, li_239, li_240, li_255, li_256, li_300, li_400, li_960, li_1000000]
  unfold kdM
  by_cases h13 : r = 13
  · obtain ⟨hm2, hp⟩ := hm h13
    subst h13
    rw [if_pos rfl]
    have e13 : mX3_kind s (nI 13) (nI w) x = if nI w ≤ nI m then mX3_kind_20 s (nI 13) (nI w) else some 0 := by
      unfold mX3_kind
      rw [if_pos (show nI 13 = 13 from rfl), hp, ob_s]
    rw [e13, k20]
    by_cases w0 : w = 0
    · subst w0; rw [if_pos rfl, if_pos (by rw [c_le (by omega) (by omega)]; omega)]; rfl
    · rw [if_neg w0]
      have h12 : w = 1 ∨ w = 2 := by omega
      by_cases hwm : w ≤ m
      · rw [if_pos hwm, if_pos (by rw [c_le (by omega) (by omega)]; exact hwm)]
        rcases h12 with rfl | rfl <;> rfl
      · rw [if_neg hwm, if_neg (by rw [c_le (by omega) (by omega)]; exact hwm)]; rfl
  · rw [if_neg h13]
    unfold mX3_kind
    rw [if_neg (show ¬ nI r = 13 from by rw [show (13 : Int32) = nI 13 from rfl, c_eq (by omega) (by omega)]; exact h13)]
    exact k20
def zr (q : Nat) (x : Int32) : Int32 := if q = 0 then nI 0 else x
theorem x3_refer (s : St) {p q : Nat} (hp : p < 180) (hq : q ≤ 3) (x : Int32) : mX3_refer s (nI p) (nI q) x = some (su (su s 32 (upd (s.1 32) p (nI q))) 31 (upd (s.1 31) p (zr q x))) := by
  unfold zr
  by_cases h : q = 0
  · simp (implicitDefEqProofs := false) (disch := omega) only [mX3_refer, mX3_refer_34, h, ↓bnd_e, ↓ob_s, ob_s, su_1, su_2, sl_1, sl_2, ↓ck_n, ck_n, ck_Z0, ck_Z1, c_lt, c_le, c_eq, ng_1, m_ne, m_en, m_lt, m_le, m_gt, m_ge, n_add, n_mul, n_sub, n_sm, n_pm, n_0m, n_cl, Nat.reduceEqDiff, ↓reduceIte, nle_T, nle_F, nlt_T, nlt_F, neq_F, neq_T, if_true, if_false, true_and, and_true, Nat.mul_zero, Nat.zero_add, Nat.add_zero, Nat.reduceAdd, Nat.reduceMul, Nat.reduceSub, li_0, li_1, li_2, li_3, li_4, li_5, li_6, li_7, li_8, li_9, li_10, li_11, li_12, li_13, li_14, li_15, li_16, li_20, li_24, li_28, li_31, li_35, li_38, li_40, li_41, li_45, li_48, li_60, li_62, li_63, li_97, li_100, li_104, li_105, li_120, li_124, li_127, li_180, li_239, li_240, li_255, li_256, li_300, li_400, li_960, li_1000000]
  · simp (implicitDefEqProofs := false) (disch := omega) only [mX3_refer, mX3_refer_34, h, ↓bnd_e, ↓ob_s, ob_s, su_1, su_2, sl_1, sl_2, ↓ck_n, ck_n, ck_Z0, ck_Z1, c_lt, c_le, c_eq, ng_1, m_ne, m_en, m_lt, m_le, m_gt, m_ge, n_add, n_mul, n_sub, n_sm, n_pm, n_0m, n_cl, Nat.reduceEqDiff, ↓reduceIte, nle_T, nle_F, nlt_T, nlt_F, neq_F, neq_T, if_true, if_false, true_and, and_true, Nat.mul_zero, Nat.zero_add, Nat.add_zero, Nat.reduceAdd, Nat.reduceMul, Nat.reduceSub, li_0, li_1, li_2, li_3, li_4, li_5, li_6, li_7, li_8, li_9, li_10, li_11, li_12, li_13, li_14, li_15, li_16, li_20, li_24, li_28, li_31, li_35, li_38, li_40, li_41, li_45, li_48, li_60, li_62, li_63, li_97, li_100, li_104, li_105, li_120, li_124, li_127, li_180, li_239, li_240, li_255, li_256, li_300, li_400, li_960, li_1000000]
def kA : List Nat := [7, 8, 29, 30, 31, 32, 33, 35]
theorem x3_add {σ : St} {L n r m : Nat} (hL : L < 60) (hn : n < 120) (h8 : σ.1 8 0 = nI L) (h7 : σ.1 7 0 = nI n) (hr : r ≤ 15) {a : Int32} (hm : r = 13 → m ≤ 2 ∧ mX6_premises σ a = some (nI m)) (f b c : Int32) :
    ∃ σ', mX3_add σ f (nI r) a b c = some (nI L, σ') ∧ KE kA σ σ' ∧ σ'.2 = σ.2 ∧ σ'.1 8 0 = nI (L + 1) ∧ σ'.1 7 0 = nI (n + 1) ∧ σ'.1 29 = upd (σ.1 29) L f ∧ σ'.1 30 = upd (σ.1 30) L (nI r) ∧
      σ'.1 31 = upd (upd (upd (σ.1 31) (3 * L) (zr (kdM r m 0) a)) (3 * L + 1) (zr (kdM r m 1) b)) (3 * L + 2) (zr (kdM r m 2) c) ∧
      σ'.1 32 = upd (upd (upd (σ.1 32) (3 * L) (nI (kdM r m 0))) (3 * L + 1) (nI (kdM r m 1))) (3 * L + 2) (nI (kdM r m 2)) ∧
      σ'.1 33 = upd (σ.1 33) L (σ.1 11 0) ∧ σ'.1 35 = upd (σ.1 35) n mI := by
  obtain ⟨s1, e1⟩ : ∃ v, v = su σ 29 (upd (σ.1 29) L f) := ⟨_, rfl⟩
  obtain ⟨s2, e2⟩ : ∃ v, v = su s1 30 (upd (s1.1 30) L (nI r)) := ⟨_, rfl⟩
  obtain ⟨s3, e3⟩ : ∃ v, v = su (su s2 32 (upd (s2.1 32) (3 * L) (nI (kdM r m 0)))) 31 (upd (s2.1 31) (3 * L) (zr (kdM r m 0) a)) := ⟨_, rfl⟩
  obtain ⟨s4, e4⟩ : ∃ v, v = su (su s3 32 (upd (s3.1 32) (3 * L + 1) (nI (kdM r m 1)))) 31 (upd (s3.1 31) (3 * L + 1) (zr (kdM r m 1) b)) := ⟨_, rfl⟩
  obtain ⟨s5, e5⟩ : ∃ v, v = su (su s4 32 (upd (s4.1 32) (3 * L + 2) (nI (kdM r m 2)))) 31 (upd (s4.1 31) (3 * L + 2) (zr (kdM r m 2) c)) := ⟨_, rfl⟩
  obtain ⟨s6, e6⟩ : ∃ v, v = su s5 33 (upd (s5.1 33) L (s5.1 11 0)) := ⟨_, rfl⟩
  obtain ⟨s7, e7⟩ : ∃ v, v = su s6 8 (fun _ => nI (L + 1)) := ⟨_, rfl⟩
  obtain ⟨s8, e8⟩ : ∃ v, v = su (su s7 35 (upd (s7.1 35) n mI)) 7 (fun _ => nI (n + 1)) := ⟨_, rfl⟩
  have K2 : KE [29, 30] σ s2 := by rw [e2, e1]; exact (KE.rf.s (by decide)).s (by decide)
  have K3 : KE [29, 30, 31, 32] σ s3 := by rw [e3]; exact ((K2.wk (by decide)).s (by decide)).s (by decide)
  have K4 : KE [29, 30, 31, 32] σ s4 := by rw [e4]; exact (K3.s (by decide)).s (by decide)
  have K5 : KE [29, 30, 31, 32] σ s5 := by rw [e5]; exact (K4.s (by decide)).s (by decide)
  have K6 : KE [29, 30, 31, 32, 33] σ s6 := by rw [e6]; exact (K5.wk (by decide)).s (by decide)
  have pk : ∀ s : St, KE [29, 30, 31, 32] σ s → (r = 13 → m ≤ 2 ∧ mX6_premises s a = some (nI m)) := fun s hs h13 => ⟨(hm h13).1, by rw [prem_c (hs 6 (by decide)) (hs 23 (by decide)) (hs 24 (by decide))]; exact (hm h13).2⟩
  have z3 : (3 : Int32) * nI L = nI (3 * L) := pk_mul 3 L
  have z4 : (3 : Int32) * nI L + 1 = nI (3 * L + 1) := by rw [z3]; exact nI_1 _
  have z5 : (3 : Int32) * nI L + 2 = nI (3 * L + 2) := by rw [z3]; exact nI_add _ 2
  refine ⟨s8, ?_, ?_, ?_, ?_, ?_, ?_, ?_, ?_, ?_, ?_, ?_⟩
  · unfold mX3_add
    rw [h8, bnd_e, if_neg (by rw [show (0 : Int32) = nI 0 from rfl, c_lt (by omega) (by omega)]; omega), if_pos (by rw [show (60 : Int32) = nI 60 from rfl, c_lt (by omega) (by omega)]; exact hL)]
    rw [ck_n _ hL (by omega), bnd_e, n_cl (by omega), ← e1, ck_n _ hL (by omega), bnd_e, ← e2]
    rw [show (0 : Int32) = nI 0 from rfl, x3_kind hr (by omega) (pk s2 (K2.wk (by decide))), ob_s, z3, x3_refer s2 (by omega) (kdM_3 r m 0 hr (by omega)) a, ob_s, ← e3]
    rw [← z3, z4, z5, show (1 : Int32) = nI 1 from rfl, x3_kind hr (by omega) (pk s3 K3), ob_s, x3_refer s3 (by omega) (kdM_3 r m 1 hr (by omega)) b, ob_s, ← e4]
    rw [show (2 : Int32) = nI 2 from rfl, x3_kind hr (by omega) (pk s4 K4), ob_s, x3_refer s4 (by omega) (kdM_3 r m 2 hr (by omega)) c, ob_s, ← e5]
    have i11 : mX0_innermost s5 = some (s5.1 11 0) := rfl
    rw [i11, ob_s, ck_n _ hL (by omega), bnd_e, ← e6]
    have h8' : s6.1 8 0 + nI 1 = nI (L + 1) := by rw [K6 8 (by decide), h8]; exact nI_1 L
    rw [h8', bnd_e, ← e7]
    have h7' : s7.1 7 0 = nI n := by rw [e7, su_1, if_neg (by decide), K6 7 (by decide), h7]
    have nd : mX3_noteDeed s7 (-nI 1) = some s8 := by
      rw [e8]
      simp (implicitDefEqProofs := false) (disch := omega) only [mX3_noteDeed, h7', ↓bnd_e, ↓ob_s, ob_s, su_1, su_2, sl_1, sl_2, ↓ck_n, ck_n, ck_Z0, ck_Z1, c_lt, c_le, c_eq, ng_1, m_ne, m_en, m_lt, m_le, m_gt, m_ge, n_add, n_mul, n_sub, n_sm, n_pm, n_0m, n_cl, Nat.reduceEqDiff, ↓reduceIte, nle_T, nle_F, nlt_T, nlt_F, neq_F, neq_T, if_true, if_false, true_and, and_true, Nat.mul_zero, Nat.zero_add, Nat.add_zero, Nat.reduceAdd, Nat.reduceMul, Nat.reduceSub, li_0, li_1, li_2, li_3, li_4, li_5, li_6, li_7, li_8, li_9, li_10, li_11, li_12, li_13, li_14, li_15, li_16, li_20, li_24, li_28, li_31, li_35, li_38, li_40, li_41, li_45, li_48, li_60, li_62, li_63, li_97, li_100, li_104, li_105, li_120, li_124, li_127, li_180, li_239, li_240, li_255, li_256, li_300, li_400, li_960, li_1000000]
    exact (congrArg (fun o : Option St => o.bind fun s23 => some (nI L, s23)) nd).trans rfl
  · rw [e8, e7]; exact (((K6.wk (by decide)).s (by decide)).s (by decide)).s (by decide)
  · rw [e8, e7, e6, e5, e4, e3, e2, e1]; rfl
  · rw [e8, e7]; rfl
  · rw [e8]; rfl
  · rw [e8, e7, e6, e5, e4, e3, e2, e1]; rfl
  · rw [e8, e7, e6, e5, e4, e3, e2, e1]; rfl
  · rw [e8, e7, e6, e5, e4, e3, e2, e1]; rfl
  · rw [e8, e7, e6, e5, e4, e3, e2, e1]; rfl
  · rw [e8, e7, e6]
    show upd (s5.1 33) L (s5.1 11 0) = _
    rw [K5 33 (by decide), K5 11 (by decide)]
  · rw [e8, e7]
    show upd (s6.1 35) n mI = _
    rw [K6 35 (by decide)]
def kB : List Nat := [6, 9, 21, 22, 23, 24, 28]
theorem x8_add {τ : St} {L n : Nat} (hL : L < 60) (hn : n < 120) (h6 : τ.1 6 0 = nI L) (h9 : τ.1 9 0 = nI n) (f r x y z : Int32) :
    ∃ τ', mX8_add τ f r x y z = some (nI L, τ') ∧ KE kB τ τ' ∧ τ'.1 6 0 = nI (L + 1) ∧ τ'.1 9 0 = nI (n + 1) ∧ τ'.1 21 = upd (τ.1 21) L f ∧ τ'.1 22 = upd (τ.1 22) L r ∧
      τ'.1 23 = upd (upd (upd (τ.1 23) (3 * L) x) (3 * L + 1) y) (3 * L + 2) z ∧ τ'.1 24 = upd (τ.1 24) L (τ.1 8 0) ∧ τ'.1 28 = upd (τ.1 28) n (nI L) := by
  refine ⟨su (su (su (su (su (su (su (su (su τ 21 (upd (τ.1 21) L f)) 22 (upd (τ.1 22) L r)) 23 (upd (τ.1 23) (3 * L) x)) 23 (upd (upd (τ.1 23) (3 * L) x) (3 * L + 1) y)) 23 (upd (upd (upd (τ.1 23) (3 * L) x) (3 * L + 1) y) (3 * L + 2) z)) 24 (upd (τ.1 24) L (τ.1 8 0))) 28 (upd (τ.1 28) n (nI L))) 9 (fun _ => nI (n + 1))) 6 (fun _ => nI (L + 1)), ?_, ?_, rfl, rfl, rfl, rfl, rfl, rfl, rfl⟩
  · simp (implicitDefEqProofs := false) (disch := omega) only [mX8_add, h6, h9, ↓bnd_e, ↓ob_s, ob_s, su_1, su_2, sl_1, sl_2, ↓ck_n, ck_n, ck_Z0, ck_Z1, c_lt, c_le, c_eq, ng_1, m_ne, m_en, m_lt, m_le, m_gt, m_ge, n_add, n_mul, n_sub, n_sm, n_pm, n_0m, n_cl, Nat.reduceEqDiff, ↓reduceIte, nle_T, nle_F, nlt_T, nlt_F, neq_F, neq_T, if_true, if_false, true_and, and_true, Nat.mul_zero, Nat.zero_add, Nat.add_zero, Nat.reduceAdd, Nat.reduceMul, Nat.reduceSub, li_0, li_1, li_2, li_3, li_4, li_5, li_6, li_7, li_8, li_9, li_10, li_11, li_12, li_13, li_14, li_15, li_16, li_20, li_24, li_28, li_31, li_35, li_38, li_40, li_41, li_45, li_48, li_60, li_62, li_63, li_97, li_100, li_104, li_105, li_120, li_124, li_127, li_180, li_239, li_240, li_255, li_256, li_300, li_400, li_960, li_1000000, Nat.add_sub_cancel]
  · exact ((((((((KE.rf.s (by decide)).s (by decide)).s (by decide)).s (by decide)).s (by decide)).s (by decide)).s (by decide)).s (by decide)).s (by decide)
/-- a line added on both sides -/
theorem RV_add {F T L B n O r m : Nat} {σ τ σ' τ' : St} {a b c f : Int32} (hL : L < 60) (hr : r ≤ 15)
    (a1 : σ.1 9 0 = nI B) (a2 : τ.1 7 0 = nI B) (a3 : σ.1 10 0 = nI O) (a4 : σ.1 11 0 = τ.1 8 0)
    (b1 : σ.1 29 = τ.1 21 ∧ σ.1 30 = τ.1 22 ∧ σ.1 31 = τ.1 23 ∧ σ.1 33 = τ.1 24 ∧ σ.1 36 = τ.1 25 ∧ σ.1 37 = τ.1 26 ∧ σ.1 38 = τ.1 27)
    (c1 : ∀ i, i < n → DR (σ.1 35 i) (τ.1 28 i))
    (d1 : ∀ k, k < L → ∀ r, r ≤ 15 → τ.1 22 k = nI r → ∀ w, w < 3 → σ.1 32 (3 * k + w) = nI (kdN τ.1 r (τ.1 23 (3 * k)).toNatClampNeg w))
    (hm : r = 13 → ∃ t, t < T ∧ T ≤ 16 ∧ a = nI t ∧ m ≤ 2 ∧ τ.1 30 t = nI m)
    (s1 : KE kA σ σ') (s8 : σ'.1 8 0 = nI (L + 1)) (s7 : σ'.1 7 0 = nI (n + 1)) (s29 : σ'.1 29 = upd (σ.1 29) L f) (s30 : σ'.1 30 = upd (σ.1 30) L (nI r))
    (s31 : σ'.1 31 = upd (upd (upd (σ.1 31) (3 * L) (zr (kdM r m 0) a)) (3 * L + 1) (zr (kdM r m 1) b)) (3 * L + 2) (zr (kdM r m 2) c))
    (s32 : σ'.1 32 = upd (upd (upd (σ.1 32) (3 * L) (nI (kdM r m 0))) (3 * L + 1) (nI (kdM r m 1))) (3 * L + 2) (nI (kdM r m 2)))
    (s33 : σ'.1 33 = upd (σ.1 33) L (σ.1 11 0)) (s35 : σ'.1 35 = upd (σ.1 35) n mI)
    (t1 : KE kB τ τ') (t6 : τ'.1 6 0 = nI (L + 1)) (t9 : τ'.1 9 0 = nI (n + 1)) (t21 : τ'.1 21 = upd (τ.1 21) L f) (t22 : τ'.1 22 = upd (τ.1 22) L (nI r))
    (t23 : τ'.1 23 = upd (upd (upd (τ.1 23) (3 * L) (zr (kdM r m 0) a)) (3 * L + 1) (zr (kdM r m 1) b)) (3 * L + 2) (zr (kdM r m 2) c))
    (t24 : τ'.1 24 = upd (τ.1 24) L (τ.1 8 0)) (t28 : τ'.1 28 = upd (τ.1 28) n (nI L))
    (hh : Hist F T τ'.1 (n + 1) (L + 1) B O (τ'.1 8 0) (τ'.1 26)) : RV F T σ' τ' := by
  obtain ⟨e29, e30, e31, e33, e36, e37, e38⟩ := b1
  refine ⟨L + 1, B, n + 1, O, ⟨s8, t6, ?_, ?_, s7, t9, ?_, ?_⟩, ⟨?_, ?_, ?_, ?_, ?_, ?_, ?_⟩, fun i hi => ?_, fun k hk r' hr' hk22 w hw => ?_, hh⟩
  · rw [s1 9 (by decide), a1]
  · rw [t1 7 (by decide), a2]
  · rw [s1 10 (by decide), a3]
  · rw [s1 11 (by decide), t1 8 (by decide), a4]
  · rw [s29, t21, e29]
  · rw [s30, t22, e30]
  · rw [s31, t23, e31]
  · rw [s33, t24, e33, a4]
  · rw [s1 36 (by decide), t1 25 (by decide), e36]
  · rw [s1 37 (by decide), t1 26 (by decide), e37]
  · rw [s1 38 (by decide), t1 27 (by decide), e38]
  · rw [s35, t28, up_1, up_1]
    by_cases e : i = n
    · rw [if_pos e, if_pos e]; exact Or.inl ⟨rfl, L, hL, rfl⟩
    · rw [if_neg e, if_neg e]; exact c1 i (by omega)
  · have hk30 : ∀ r a w, kdN τ'.1 r a w = kdN τ.1 r a w := fun r a w => by unfold kdN; rw [t1 30 (by decide)]
    rw [hk30]
    by_cases e : k < L
    · rw [t22, pk_un (by omega)] at hk22
      rw [s32, t23, pk_un (by omega), pk_un (by omega), pk_un (by omega), pk_un (by omega), pk_un (by omega), pk_un (by omega)]
      exact d1 k e r' hr' hk22 w hw
    · have : k = L := by omega
      subst this
      rw [t22, pk_us, c_eq (by omega) (by omega)] at hk22
      subst hk22
      have e23 : τ'.1 23 (3 * k) = zr (kdM r m 0) a := by rw [t23, pk_un (by omega), pk_un (by omega), pk_us]
      have eN : kdN τ.1 r (τ'.1 23 (3 * k)).toNatClampNeg w = kdM r m w := by
        rw [e23]
        unfold kdN kdM
        by_cases h13 : r = 13
        · obtain ⟨t, t1', t2', t3', t4', t5'⟩ := hm h13
          subst h13
          rw [if_pos rfl, if_pos rfl, if_pos rfl, if_pos rfl, t3']
          have : (zr 3 (nI t)).toNatClampNeg = t := n_cl (by omega)
          rw [this, t5', n_cl (by omega)]
        · rw [if_neg h13, if_neg h13]
      rw [eN, s32]
      have hw3 : w = 0 ∨ w = 1 ∨ w = 2 := by omega
      rcases hw3 with rfl | rfl | rfl
      · show upd (upd (upd (σ.1 32) (3 * k) (nI (kdM r m 0))) (3 * k + 1) (nI (kdM r m 1))) (3 * k + 2) (nI (kdM r m 2)) (3 * k) = _
        rw [pk_un (by omega), pk_un (by omega), pk_us]
      · rw [pk_un (by omega), pk_us]
      · rw [pk_us]
