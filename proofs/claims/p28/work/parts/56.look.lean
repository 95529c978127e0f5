theorem nd_dig {N : Nat} (h : N < 1000) : nI N / nI 100 = nI (N / 100) ∧ nI N / nI 10 - nI N / nI 10 / nI 10 * nI 10 = nI (N / 10 % 10) ∧ nI N - nI N / nI 10 * nI 10 = nI (N % 10) := by
  refine ⟨pk_div (by omega) (by decide) (by decide), ?_, pk_rem (by omega) (by decide) (by decide)⟩
  have : nI N / nI 10 = nI (N / 10) := pk_div (by omega) (by decide) (by decide)
  rw [this]
  exact pk_rem (by omega) (by decide) (by decide)
def NDS : List Nat := [100, 110, 100, 100, 100, 100, 122, 200, 110, 200, 110, 100, 100]
theorem nds_v : ∀ r, r < 13 → kNEEDS r = nI (NDS.getD r 0) ∧ NDS.getD r 0 < 1000 ∧ NDS.getD r 0 / 100 = KT.getD (3 * r) 0 ∧ NDS.getD r 0 / 10 % 10 = KT.getD (3 * r + 1) 0 ∧ NDS.getD r 0 % 10 = KT.getD (3 * r + 2) 0 := by decide +kernel
theorem kk_v : ∀ i, i < 48 → kKINDS i = nI (KT.getD i 0) ∧ KT.getD i 0 ≤ 3 := by decide +kernel
/-- a theorem's number, as a rule asks for it -/
def TA (T : Nat) (g : Nat → Nat → Int32) (r : Nat) (x : Int32) : Prop := r = 13 → ∃ a, a < T ∧ x = nI a ∧ ∃ m, m ≤ 2 ∧ g 30 a = nI m
theorem x8_needs {τ : St} {T : Nat} (hT : T ≤ 16) (h10 : τ.1 10 0 = nI T) {r : Nat} (hr : r ≤ 13) {x : Int32} (hx : TA T τ.1 r x) :
    ∃ N, N < 1000 ∧ mX8_needs τ (nI r) x = some (nI N) ∧ N / 100 = kdN τ.1 r x.toNatClampNeg 0 ∧ N / 10 % 10 = kdN τ.1 r x.toNatClampNeg 1 ∧ N % 10 = kdN τ.1 r x.toNatClampNeg 2 := by
  by_cases h13 : r = 13
  · obtain ⟨a, ha, rfl, m, hm, e⟩ := hx h13
    subst h13
    have hin : mX8_isIn τ (nI a) (nI 0) (nI T - nI 1) = some (nI 1) := by
      rcases x8_in1 (nI a) T (by omega) with ⟨j, _, _, h⟩ | ⟨h | ⟨_, h, _⟩, _⟩
      · exact h τ
      · rw [c_lt (by omega) (by omega)] at h; omega
      · rw [c_le (by omega) (by omega)] at h; omega
    have key : mX8_needs τ (nI 13) (nI a) = (if τ.1 30 a ≤ nI 0 then mX8_needs_46 τ (nI a) (nI 0) (nI 300) else mX8_needs_46 τ (nI a) (nI 10) (nI 300)) := by
      unfold mX8_needs
      rw [if_pos (by decide), h10]
      have : mX8_isIn τ (nI a) 0 (nI T - 1) = some (nI 1) := hin
      rw [this, ob_s, if_neg (by decide), ck_n _ (by omega) (by omega), n_cl (by omega)]
      rfl
    have h012 : m = 0 ∨ m = 1 ∨ m = 2 := by omega
    rw [key, n_cl (by omega)]
    unfold kdN
    rw [if_pos rfl, if_pos rfl, if_pos rfl, e]
    rcases h012 with rfl | rfl | rfl
    · refine ⟨300, by omega, ?_, rfl, rfl, rfl⟩
      simp (disch := omega) only [mX8_needs_46, e, ↓bnd_e, ↓ob_s, ob_s, su_1, su_2, sl_1, sl_2, ↓ck_n, ck_n, ck_Z0, ck_Z1, c_lt, c_le, c_eq, ng_1, m_ne, m_en, m_lt, m_le, m_gt, m_ge, n_add, n_mul, n_sub, n_sm, n_pm, n_0m, n_cl, Nat.reduceEqDiff, ↓reduceIte, nle_T, nle_F, nlt_T, nlt_F, neq_F, neq_T, if_true, if_false, true_and, and_true, Nat.mul_zero, Nat.zero_add, Nat.add_zero, Nat.reduceAdd, Nat.reduceMul, Nat.reduceSub, li_0, li_1, li_2, li_3, li_4, li_5, li_6, li_7, li_8, li_9, li_10, li_11, li_12, li_13, li_14, li_15, li_16, li_20, li_24, li_28, li_31, li_35, li_38, li_40, li_41, li_45, li_48, li_60, li_62, li_63, li_97, li_100, li_104, li_105, li_120, li_124, li_127, li_180, li_239, li_240, li_255, li_256, li_300, li_400, li_960, li_1000000]
    · refine ⟨310, by omega, ?_, rfl, rfl, rfl⟩
      simp (disch := omega) only [mX8_needs_46, e, ↓bnd_e, ↓ob_s, ob_s, su_1, su_2, sl_1, sl_2, ↓ck_n, ck_n, ck_Z0, ck_Z1, c_lt, c_le, c_eq, ng_1, m_ne, m_en, m_lt, m_le, m_gt, m_ge, n_add, n_mul, n_sub, n_sm, n_pm, n_0m, n_cl, Nat.reduceEqDiff, ↓reduceIte, nle_T, nle_F, nlt_T, nlt_F, neq_F, neq_T, if_true, if_false, true_and, and_true, Nat.mul_zero, Nat.zero_add, Nat.add_zero, Nat.reduceAdd, Nat.reduceMul, Nat.reduceSub, li_0, li_1, li_2, li_3, li_4, li_5, li_6, li_7, li_8, li_9, li_10, li_11, li_12, li_13, li_14, li_15, li_16, li_20, li_24, li_28, li_31, li_35, li_38, li_40, li_41, li_45, li_48, li_60, li_62, li_63, li_97, li_100, li_104, li_105, li_120, li_124, li_127, li_180, li_239, li_240, li_255, li_256, li_300, li_400, li_960, li_1000000]
    · refine ⟨311, by omega, ?_, rfl, rfl, rfl⟩
      simp (disch := omega) only [mX8_needs_46, e, ↓bnd_e, ↓ob_s, ob_s, su_1, su_2, sl_1, sl_2, ↓ck_n, ck_n, ck_Z0, ck_Z1, c_lt, c_le, c_eq, ng_1, m_ne, m_en, m_lt, m_le, m_gt, m_ge, n_add, n_mul, n_sub, n_sm, n_pm, n_0m, n_cl, Nat.reduceEqDiff, ↓reduceIte, nle_T, nle_F, nlt_T, nlt_F, neq_F, neq_T, if_true, if_false, true_and, and_true, Nat.mul_zero, Nat.zero_add, Nat.add_zero, Nat.reduceAdd, Nat.reduceMul, Nat.reduceSub, li_0, li_1, li_2, li_3, li_4, li_5, li_6, li_7, li_8, li_9, li_10, li_11, li_12, li_13, li_14, li_15, li_16, li_20, li_24, li_28, li_31, li_35, li_38, li_40, li_41, li_45, li_48, li_60, li_62, li_63, li_97, li_100, li_104, li_105, li_120, li_124, li_127, li_180, li_239, li_240, li_255, li_256, li_300, li_400, li_960, li_1000000]
  · obtain ⟨a1, a2, a3, a4, a5⟩ := nds_v r (by omega)
    refine ⟨NDS.getD r 0, a2, ?_, ?_, ?_, ?_⟩
    · simp (disch := omega) only [mX8_needs, a1, ↓bnd_e, ↓ob_s, ob_s, su_1, su_2, sl_1, sl_2, ↓ck_n, ck_n, ck_Z0, ck_Z1, c_lt, c_le, c_eq, ng_1, m_ne, m_en, m_lt, m_le, m_gt, m_ge, n_add, n_mul, n_sub, n_sm, n_pm, n_0m, n_cl, Nat.reduceEqDiff, ↓reduceIte, nle_T, nle_F, nlt_T, nlt_F, neq_F, neq_T, if_true, if_false, true_and, and_true, Nat.mul_zero, Nat.zero_add, Nat.add_zero, Nat.reduceAdd, Nat.reduceMul, Nat.reduceSub, li_0, li_1, li_2, li_3, li_4, li_5, li_6, li_7, li_8, li_9, li_10, li_11, li_12, li_13, li_14, li_15, li_16, li_20, li_24, li_28, li_31, li_35, li_38, li_40, li_41, li_45, li_48, li_60, li_62, li_63, li_97, li_100, li_104, li_105, li_120, li_124, li_127, li_180, li_239, li_240, li_255, li_256, li_300, li_400, li_960, li_1000000]
    · rw [a3]; unfold kdN; rw [if_neg h13]; rfl
    · rw [a4]; unfold kdN; rw [if_neg h13]
    · rw [a5]; unfold kdN; rw [if_neg h13]
/-- the marks of both sides -/
def NE (L : Nat) (σ τ : St) : Prop := ∀ k, k < L → σ.1 34 k = τ.1 40 k ∧ (τ.1 40 k = nI 0 ∨ τ.1 40 k = nI 1)
theorem NE.u {L j : Nat} {σ τ : St} (h : NE L σ τ) (b : Bool) : NE L (su σ 34 (upd (σ.1 34) j (zB b))) (su τ 40 (upd (τ.1 40) j (zB b))) := by
  intro k hk
  rw [su_1, if_pos rfl, su_1, if_pos rfl, up_1, up_1]
  by_cases e : k = j
  · rw [if_pos e, if_pos e]; cases b <;> simp [zB]
  · rw [if_neg e, if_neg e]; exact h k hk
/-- what one reference of a line marks -/
theorem mark_rel {σ τ : St} {L B : Nat} (hL : L ≤ 60) (hB : B ≤ 60) (h8 : σ.1 8 0 = nI L) (h9 : σ.1 9 0 = nI B) (h36 : σ.1 36 = τ.1 25) (h37 : σ.1 37 = τ.1 26)
    (hb : ∀ b, b < B → ∃ j, j < L ∧ τ.1 25 b = nI j) {p kd : Nat} (hp : p < 180) (hk : σ.1 32 p = nI kd) (hkd : kd ≤ 3)
    (h1 : kd = 1 → ∃ j, j < L ∧ σ.1 31 p = nI j) (h2 : kd = 2 → ∃ b, b < B ∧ σ.1 31 p = nI b ∧ ∃ j, j < L ∧ τ.1 26 b = nI j) (hN : NE L σ τ) :
    ∃ σ' τ', mX8_need τ (nI kd) (σ.1 31 p) = some τ' ∧ KE [34] σ σ' ∧ KE [40] τ τ' ∧ σ'.2 = σ.2 ∧ NE L σ' τ' ∧
      ∀ kh k, p < 3 * k + 3 → k < 60 → bX3_markReferences_4 kh σ (nI k) (nI p) = kh σ' (nI k) (nI (p + 1)) := by
  by_cases e1 : kd = 1
  · obtain ⟨j, hj, ej⟩ := h1 e1
    subst e1
    refine ⟨su σ 34 (upd (σ.1 34) j (zB true)), su τ 40 (upd (τ.1 40) j (zB true)), ?_, KE.rf.s (by decide), KE.rf.s (by decide), rfl, hN.u true, fun kh k hk2 hk3 => ?_⟩
    · simp (disch := omega) only [mX8_need, mX8_need_12, ej, vz_1, zB_1, ↓bnd_e, ↓ob_s, ob_s, su_1, su_2, sl_1, sl_2, ↓ck_n, ck_n, ck_Z0, ck_Z1, c_lt, c_le, c_eq, ng_1, m_ne, m_en, m_lt, m_le, m_gt, m_ge, n_add, n_mul, n_sub, n_sm, n_pm, n_0m, n_cl, Nat.reduceEqDiff, ↓reduceIte, nle_T, nle_F, nlt_T, nlt_F, neq_F, neq_T, if_true, if_false, true_and, and_true, Nat.mul_zero, Nat.zero_add, Nat.add_zero, Nat.reduceAdd, Nat.reduceMul, Nat.reduceSub, li_0, li_1, li_2, li_3, li_4, li_5, li_6, li_7, li_8, li_9, li_10, li_11, li_12, li_13, li_14, li_15, li_16, li_20, li_24, li_28, li_31, li_35, li_38, li_40, li_41, li_45, li_48, li_60, li_62, li_63, li_97, li_100, li_104, li_105, li_120, li_124, li_127, li_180, li_239, li_240, li_255, li_256, li_300, li_400, li_960, li_1000000]
    · simp (disch := omega) only [bX3_markReferences_4, mX3_markReferences_93, mX3_mark, hk, ej, h8, vz_1, zB_1, ↓bnd_e, ↓ob_s, ob_s, su_1, su_2, sl_1, sl_2, ↓ck_n, ck_n, ck_Z0, ck_Z1, c_lt, c_le, c_eq, ng_1, m_ne, m_en, m_lt, m_le, m_gt, m_ge, n_add, n_mul, n_sub, n_sm, n_pm, n_0m, n_cl, Nat.reduceEqDiff, ↓reduceIte, nle_T, nle_F, nlt_T, nlt_F, neq_F, neq_T, if_true, if_false, true_and, and_true, Nat.mul_zero, Nat.zero_add, Nat.add_zero, Nat.reduceAdd, Nat.reduceMul, Nat.reduceSub, li_0, li_1, li_2, li_3, li_4, li_5, li_6, li_7, li_8, li_9, li_10, li_11, li_12, li_13, li_14, li_15, li_16, li_20, li_24, li_28, li_31, li_35, li_38, li_40, li_41, li_45, li_48, li_60, li_62, li_63, li_97, li_100, li_104, li_105, li_120, li_124, li_127, li_180, li_239, li_240, li_255, li_256, li_300, li_400, li_960, li_1000000]
  · by_cases e2 : kd = 2
    · obtain ⟨b, hb2, eb, j, hj, ej⟩ := h2 e2
      obtain ⟨i, hi, ei⟩ := hb b hb2
      subst e2
      have ej' : σ.1 37 b = nI j := by rw [h37, ej]
      have ei' : σ.1 36 b = nI i := by rw [h36, ei]
      refine ⟨su (su σ 34 (upd (σ.1 34) i (zB true))) 34 (upd (upd (σ.1 34) i (zB true)) j (zB true)), su (su τ 40 (upd (τ.1 40) i (zB true))) 40 (upd (upd (τ.1 40) i (zB true)) j (zB true)), ?_, (KE.rf.s (by decide)).s (by decide), (KE.rf.s (by decide)).s (by decide), rfl, (hN.u true).u true, fun kh k hk2 hk3 => ?_⟩
      · simp (disch := omega) only [mX8_need, mX8_need_12, eb, ej, ei, vz_1, zB_1, ↓bnd_e, ↓ob_s, ob_s, su_1, su_2, sl_1, sl_2, ↓ck_n, ck_n, ck_Z0, ck_Z1, c_lt, c_le, c_eq, ng_1, m_ne, m_en, m_lt, m_le, m_gt, m_ge, n_add, n_mul, n_sub, n_sm, n_pm, n_0m, n_cl, Nat.reduceEqDiff, ↓reduceIte, nle_T, nle_F, nlt_T, nlt_F, neq_F, neq_T, if_true, if_false, true_and, and_true, Nat.mul_zero, Nat.zero_add, Nat.add_zero, Nat.reduceAdd, Nat.reduceMul, Nat.reduceSub, li_0, li_1, li_2, li_3, li_4, li_5, li_6, li_7, li_8, li_9, li_10, li_11, li_12, li_13, li_14, li_15, li_16, li_20, li_24, li_28, li_31, li_35, li_38, li_40, li_41, li_45, li_48, li_60, li_62, li_63, li_97, li_100, li_104, li_105, li_120, li_124, li_127, li_180, li_239, li_240, li_255, li_256, li_300, li_400, li_960, li_1000000]
      · simp (disch := omega) only [bX3_markReferences_4, mX3_markReferences_93, mX3_mark, mX0_first, mX0_last, hk, eb, ej', ei', h8, h9, vz_1, zB_1, ↓bnd_e, ↓ob_s, ob_s, su_1, su_2, sl_1, sl_2, ↓ck_n, ck_n, ck_Z0, ck_Z1, c_lt, c_le, c_eq, ng_1, m_ne, m_en, m_lt, m_le, m_gt, m_ge, n_add, n_mul, n_sub, n_sm, n_pm, n_0m, n_cl, Nat.reduceEqDiff, ↓reduceIte, nle_T, nle_F, nlt_T, nlt_F, neq_F, neq_T, if_true, if_false, true_and, and_true, Nat.mul_zero, Nat.zero_add, Nat.add_zero, Nat.reduceAdd, Nat.reduceMul, Nat.reduceSub, li_0, li_1, li_2, li_3, li_4, li_5, li_6, li_7, li_8, li_9, li_10, li_11, li_12, li_13, li_14, li_15, li_16, li_20, li_24, li_28, li_31, li_35, li_38, li_40, li_41, li_45, li_48, li_60, li_62, li_63, li_97, li_100, li_104, li_105, li_120, li_124, li_127, li_180, li_239, li_240, li_255, li_256, li_300, li_400, li_960, li_1000000]
    · refine ⟨σ, τ, ?_, KE.rf, KE.rf, rfl, hN, fun kh k hk2 hk3 => ?_⟩
      · simp (disch := omega) only [mX8_need, mX8_need_12, ↓bnd_e, ↓ob_s, ob_s, su_1, su_2, sl_1, sl_2, ↓ck_n, ck_n, ck_Z0, ck_Z1, c_lt, c_le, c_eq, ng_1, m_ne, m_en, m_lt, m_le, m_gt, m_ge, n_add, n_mul, n_sub, n_sm, n_pm, n_0m, n_cl, Nat.reduceEqDiff, ↓reduceIte, nle_T, nle_F, nlt_T, nlt_F, neq_F, neq_T, if_true, if_false, true_and, and_true, Nat.mul_zero, Nat.zero_add, Nat.add_zero, Nat.reduceAdd, Nat.reduceMul, Nat.reduceSub, li_0, li_1, li_2, li_3, li_4, li_5, li_6, li_7, li_8, li_9, li_10, li_11, li_12, li_13, li_14, li_15, li_16, li_20, li_24, li_28, li_31, li_35, li_38, li_40, li_41, li_45, li_48, li_60, li_62, li_63, li_97, li_100, li_104, li_105, li_120, li_124, li_127, li_180, li_239, li_240, li_255, li_256, li_300, li_400, li_960, li_1000000]
      · simp (disch := omega) only [bX3_markReferences_4, mX3_markReferences_93, hk, ↓bnd_e, ↓ob_s, ob_s, su_1, su_2, sl_1, sl_2, ↓ck_n, ck_n, ck_Z0, ck_Z1, c_lt, c_le, c_eq, ng_1, m_ne, m_en, m_lt, m_le, m_gt, m_ge, n_add, n_mul, n_sub, n_sm, n_pm, n_0m, n_cl, Nat.reduceEqDiff, ↓reduceIte, nle_T, nle_F, nlt_T, nlt_F, neq_F, neq_T, if_true, if_false, true_and, and_true, Nat.mul_zero, Nat.zero_add, Nat.add_zero, Nat.reduceAdd, Nat.reduceMul, Nat.reduceSub, li_0, li_1, li_2, li_3, li_4, li_5, li_6, li_7, li_8, li_9, li_10, li_11, li_12, li_13, li_14, li_15, li_16, li_20, li_24, li_28, li_31, li_35, li_38, li_40, li_41, li_45, li_48, li_60, li_62, li_63, li_97, li_100, li_104, li_105, li_120, li_124, li_127, li_180, li_239, li_240, li_255, li_256, li_300, li_400, li_960, li_1000000]
/-- what is asked of both sides to look for what is needed -/
def LQ (T L B : Nat) (σ τ : St) : Prop :=
  (L ≤ 60 ∧ B ≤ 60 ∧ T ≤ 16 ∧ σ.1 8 0 = nI L ∧ τ.1 6 0 = nI L ∧ σ.1 9 0 = nI B ∧ τ.1 10 0 = nI T) ∧ (σ.1 36 = τ.1 25 ∧ σ.1 37 = τ.1 26 ∧ σ.1 31 = τ.1 23) ∧
  (∀ b, b < B → ∃ j, j < L ∧ τ.1 25 b = nI j) ∧
  ∀ k, k < L → ∃ r, r ≤ 15 ∧ τ.1 22 k = nI r ∧ TA T τ.1 r (τ.1 23 (3 * k)) ∧ ∀ w, w < 3 → σ.1 32 (3 * k + w) = nI (kdN τ.1 r (τ.1 23 (3 * k)).toNatClampNeg w) ∧ kdN τ.1 r (τ.1 23 (3 * k)).toNatClampNeg w ≤ 3 ∧
    (kdN τ.1 r (τ.1 23 (3 * k)).toNatClampNeg w = 1 → ∃ j, j < L ∧ τ.1 23 (3 * k + w) = nI j) ∧
    (kdN τ.1 r (τ.1 23 (3 * k)).toNatClampNeg w = 2 → ∃ b, b < B ∧ τ.1 23 (3 * k + w) = nI b ∧ ∃ j, j < L ∧ τ.1 26 b = nI j)
theorem LQ.k {T L B : Nat} {σ τ σ' τ' : St} (h : LQ T L B σ τ) (hσ : KE [34] σ σ') (hτ : KE [40, 42, 0] τ τ') : LQ T L B σ' τ' := by
  unfold LQ TA
  rw [hσ 8 (by decide), hσ 9 (by decide), hσ 36 (by decide), hσ 37 (by decide), hσ 31 (by decide), hσ 32 (by decide), hτ 6 (by decide), hτ 10 (by decide), hτ 25 (by decide), hτ 26 (by decide), hτ 23 (by decide), hτ 22 (by decide), hτ 30 (by decide)]
  have hk : ∀ r a w, kdN τ'.1 r a w = kdN τ.1 r a w := fun r a w => by unfold kdN; rw [hτ 30 (by decide)]
  simp only [hk]
  exact h
theorem KE.wk {l m : List Nat} {σ s : St} (h : KE l σ s) (hm : ∀ c, c ∈ l → c ∈ m) : KE m σ s := fun j hj => h j (fun e => hj (hm j e))
/-- a line that is needed: what it refers to is marked on both sides -/
theorem refs_rel {T L B : Nat} {σ τ : St} (h : LQ T L B σ τ) (hN : NE L σ τ) {k : Nat} (hk : k < L) : ∃ σ' τ', mX3_markReferences σ (nI k) = some σ' ∧ KE [34] σ σ' ∧ KE [40] τ τ' ∧ σ'.2 = σ.2 ∧ NE L σ' τ' ∧
    ∀ (F : St → Option (Int32 × St)), (chkI (nI k) 60 (
if (τ.1 22 (nI k).toNatClampNeg) < 14 then (
chkI (nI k) 60 (
chkI (3 * nI k) 180 (
(mX8_needs τ (τ.1 22 (nI k).toNatClampNeg) (τ.1 23 (3 * nI k).toNatClampNeg)).bind fun r12 =>
chkI (3 * nI k) 180 (
(mX8_need τ (r12 / 100) (τ.1 23 (3 * nI k).toNatClampNeg)).bind fun s15 =>
chkI ((3 * nI k) + 1) 180 (
(mX8_need s15 ((r12 / 10) - (r12 / 10) / 10 * 10) (s15.1 23 ((3 * nI k) + 1).toNatClampNeg)).bind fun s17 =>
chkI ((3 * nI k) + 2) 180 (
(mX8_need s17 (r12 - r12 / 10 * 10) (s17.1 23 ((3 * nI k) + 2).toNatClampNeg)).bind fun s19 =>
F s19))))))
else (
F τ))) = F τ' := by
  obtain ⟨⟨hL, hB, hT, h8, h6, h9, h10⟩, ⟨h36, h37, h31⟩, hb, hl⟩ := h
  obtain ⟨r, hr, er, hta, hw⟩ := hl k hk
  obtain ⟨w0, w1, w2, w3⟩ := hw 0 (by omega)
  obtain ⟨v0, v1, v2, v3⟩ := hw 1 (by omega)
  obtain ⟨u0, u1, u2, u3⟩ := hw 2 (by omega)
  rw [Nat.add_zero] at w0 w2 w3
  obtain ⟨σ1, τ1, a1, a2, a3, aq, a4, a5⟩ := mark_rel hL hB h8 h9 h36 h37 hb (p := 3 * k) (by omega) w0 w1 (by rw [h31]; exact w2) (by rw [h31]; exact w3) hN
  have s31 : σ1.1 31 = τ1.1 23 := by rw [a2 31 (by decide), a3 23 (by decide), h31]
  have t23 : τ1.1 23 = τ.1 23 := a3 23 (by decide)
  obtain ⟨σ2, τ2, b1, b2, b3, bq, b4, b5⟩ := mark_rel (σ := σ1) (τ := τ1) hL hB (by rw [a2 8 (by decide)]; exact h8) (by rw [a2 9 (by decide)]; exact h9) (by rw [a2 36 (by decide), a3 25 (by decide)]; exact h36) (by rw [a2 37 (by decide), a3 26 (by decide)]; exact h37)
    (by rw [a3 25 (by decide)]; exact hb) (p := 3 * k + 1) (by omega) (by rw [a2 32 (by decide)]; exact v0) v1 (by rw [s31, t23]; exact v2) (by rw [s31, t23, a3 26 (by decide)]; exact v3) a4
  have s31' : σ2.1 31 = τ2.1 23 := by rw [b2 31 (by decide), b3 23 (by decide), s31]
  have t23' : τ2.1 23 = τ.1 23 := (b3 23 (by decide)).trans t23
  obtain ⟨σ3, τ3, c1, c2, c3, cq, c4, c5⟩ := mark_rel (σ := σ2) (τ := τ2) hL hB (by rw [b2 8 (by decide), a2 8 (by decide)]; exact h8) (by rw [b2 9 (by decide), a2 9 (by decide)]; exact h9) (by rw [b2 36 (by decide), b3 25 (by decide), a2 36 (by decide), a3 25 (by decide)]; exact h36) (by rw [b2 37 (by decide), b3 26 (by decide), a2 37 (by decide), a3 26 (by decide)]; exact h37)
    (by rw [b3 25 (by decide), a3 25 (by decide)]; exact hb) (p := 3 * k + 2) (by omega) (by rw [b2 32 (by decide), a2 32 (by decide)]; exact u0) u1 (by rw [s31', t23']; exact u2) (by rw [s31', t23', b3 26 (by decide), a3 26 (by decide)]; exact u3) b4
  refine ⟨σ3, τ3, ?_, (a2.tr b2).tr c2, (a3.tr b3).tr c3, cq.trans (bq.trans aq), c4, fun G => ?_⟩
  · unfold mX3_markReferences
    obtain ⟨nf, hnf⟩ := NF_5
    rw [hnf]
    have e3 : (3 : Int32) * nI k = nI (3 * k) := pk_mul 3 k
    simp only [bnd_e, e3, fx_s]
    rw [a5 _ k (by omega) (by omega), b5 _ k (by omega) (by omega), c5 _ k (by omega) (by omega)]
    simp (disch := omega) only [bX3_markReferences_4, ↓bnd_e, ↓ob_s, ob_s, su_1, su_2, sl_1, sl_2, ↓ck_n, ck_n, ck_Z0, ck_Z1, c_lt, c_le, c_eq, ng_1, m_ne, m_en, m_lt, m_le, m_gt, m_ge, n_add, n_mul, n_sub, n_sm, n_pm, n_0m, n_cl, Nat.reduceEqDiff, ↓reduceIte, nle_T, nle_F, nlt_T, nlt_F, neq_F, neq_T, if_true, if_false, true_and, and_true, Nat.mul_zero, Nat.zero_add, Nat.add_zero, Nat.reduceAdd, Nat.reduceMul, Nat.reduceSub, li_0, li_1, li_2, li_3, li_4, li_5, li_6, li_7, li_8, li_9, li_10, li_11, li_12, li_13, li_14, li_15, li_16, li_20, li_24, li_28, li_31, li_35, li_38, li_40, li_41, li_45, li_48, li_60, li_62, li_63, li_97, li_100, li_104, li_105, li_120, li_124, li_127, li_180, li_239, li_240, li_255, li_256, li_300, li_400, li_960, li_1000000]
  · by_cases h14 : r < 14
    · obtain ⟨N, n0, n1, n2, n3, n4⟩ := x8_needs hT h10 (by omega) hta
      obtain ⟨d1, d2, d3⟩ := nd_dig n0
      rw [h31] at a1
      rw [s31, t23] at b1
      rw [s31', t23'] at c1
      rw [n2] at d1; rw [n3] at d2; rw [n4] at d3
      simp (disch := omega) only [li_3, li_14, li_1, li_2, li_10, li_100, n_mul, n_add, n_cl, ck_n, er, c_lt, if_pos, n1, ob_s, d1, d2, d3, a1, t23, b1, t23', c1]
    · have k0 : ∀ w, w < 3 → kdN τ.1 r (τ.1 23 (3 * k)).toNatClampNeg w = 0 := by
        intro w hw
        have h145 : r = 14 ∨ r = 15 := by omega
        have hw3 : w = 0 ∨ w = 1 ∨ w = 2 := by omega
        rcases h145 with rfl | rfl <;> rcases hw3 with rfl | rfl | rfl <;> rfl
      have nn : ∀ (t : St) (x : Int32), mX8_need t (nI 0) x = some t := fun t x => by
        simp (disch := omega) only [mX8_need, mX8_need_12, ↓bnd_e, ↓ob_s, ob_s, su_1, su_2, sl_1, sl_2, ↓ck_n, ck_n, ck_Z0, ck_Z1, c_lt, c_le, c_eq, ng_1, m_ne, m_en, m_lt, m_le, m_gt, m_ge, n_add, n_mul, n_sub, n_sm, n_pm, n_0m, n_cl, Nat.reduceEqDiff, ↓reduceIte, nle_T, nle_F, nlt_T, nlt_F, neq_F, neq_T, if_true, if_false, true_and, and_true, Nat.mul_zero, Nat.zero_add, Nat.add_zero, Nat.reduceAdd, Nat.reduceMul, Nat.reduceSub, li_0, li_1, li_2, li_3, li_4, li_5, li_6, li_7, li_8, li_9, li_10, li_11, li_12, li_13, li_14, li_15, li_16, li_20, li_24, li_28, li_31, li_35, li_38, li_40, li_41, li_45, li_48, li_60, li_62, li_63, li_97, li_100, li_104, li_105, li_120, li_124, li_127, li_180, li_239, li_240, li_255, li_256, li_300, li_400, li_960, li_1000000]
      rw [k0 0 (by omega), nn] at a1
      rw [k0 1 (by omega), nn] at b1
      rw [k0 2 (by omega), nn] at c1
      have q1 := Option.some.inj a1
      have q2 := Option.some.inj b1
      have q3 := Option.some.inj c1
      rw [← q3, ← q2, ← q1]
      simp (disch := omega) only [li_14, n_cl, ck_n, er, c_lt, if_neg]
