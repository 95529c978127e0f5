def s00 : St := (fun _ _ => 0, fun _ => 0)
theorem nb_2 (σ : St) : ∀ k, k ≤ 5 → mX1_needsBrackets σ (nI 2) (nI k) (nI 0) = some (zB (decide (3 ≤ k))) := by
  have h : ∀ k, k ≤ 5 → mX1_needsBrackets s00 (nI 2) (nI k) (nI 0) = some (zB (decide (3 ≤ k))) := by decide +kernel
  exact fun k hk => h k hk
theorem nb_l (σ : St) : ∀ s k, 3 ≤ s → s ≤ 5 → k ≤ 5 → mX1_needsBrackets σ (nI s) (nI k) (nI 0) = some (zB (decide ((if s = 5 then 5 else s + 1) ≤ k))) := by
  have h : ∀ s, s ≤ 5 → ∀ k, k ≤ 5 → 3 ≤ s → mX1_needsBrackets s00 (nI s) (nI k) (nI 0) = some (zB (decide ((if s = 5 then 5 else s + 1) ≤ k))) := by decide +kernel
  exact fun s k h3 h5 hk => h s h5 k hk h3
theorem nb_r (σ : St) : ∀ s k, 3 ≤ s → s ≤ 5 → k ≤ 5 → mX1_needsBrackets σ (nI s) (nI k) (nI 1) = some (zB (decide ((if s = 5 then 6 else s) ≤ k))) := by
  have h : ∀ s, s ≤ 5 → ∀ k, k ≤ 5 → 3 ≤ s → mX1_needsBrackets s00 (nI s) (nI k) (nI 1) = some (zB (decide ((if s = 5 then 6 else s) ≤ k))) := by decide +kernel
  exact fun s k h3 h5 hk => h s h5 k hk h3
theorem nb_m (σ : St) : ∀ s, s ≤ 2 → ∀ r, r ≤ 1 → mX1_needsBrackets σ (nI s) mI (nI r) = some (nI 0) := by
  have h : ∀ s, s ≤ 2 → ∀ r, r ≤ 1 → mX1_needsBrackets s00 (nI s) mI (nI r) = some (nI 0) := by decide +kernel
  exact h
theorem tl_b (σ : St) : ∀ l, l < 8 → ∀ w, w < 4 → ∃ t, mX1_truthOfLetter σ (nI l) (nI w) = some t ∧ ∀ k, k < 64 → btL t k = decide ((64 * w + k) / 2 ^ l % 2 = 1) := by
  have h : ∀ l, l < 8 → ∀ w, w < 4 → ∀ k, k < 64 → (mX1_truthOfLetter s00 (nI l) (nI w)).map (fun t => btL t k) = some (decide ((64 * w + k) / 2 ^ l % 2 = 1)) := by decide +kernel
  intro l hl w hw
  have h2 := h l hl w hw
  rw [x1_tl s00 σ]
  revert h2
  cases mX1_truthOfLetter s00 (nI l) (nI w) with
  | none => intro h; exact absurd (h 0 (by decide)) (by simp)
  | some t => exact fun h => ⟨t, rfl, fun k hk => Option.some.inj (h k hk)⟩
theorem gm_sort (σ : St) : mX1_sort σ mI = some mI := rfl
theorem gm_letters (σ : St) : mX1_letters σ mI = some (nI 0) := rfl
theorem gm_size (σ : St) : mX1_size σ mI = some (nI 0) := rfl
theorem gm_width (σ : St) : mX1_width σ mI = some (nI 0) := rfl
theorem gm_truth (σ : St) (w : Int32) : mX1_truth σ mI w = some 0 := rfl
theorem gn_letters {σ : St} {F j : Nat} (h0 : σ.1 0 0 = nI F) (hF : F ≤ 240) (hj : j < F) : mX1_letters σ (nI j) = some (σ.1 15 j) := by
  simp (disch := omega) only [mX1_letters, h0, bnd_e, ob_s, su_1, su_2, sl_1, sl_2, ck_n, ck_Z0, ck_Z1, c_lt, c_le, c_eq, ng_1, m_ne, m_en, m_lt, m_le, m_gt, m_ge, n_add, n_mul, n_sub, n_sm, n_pm, n_0m, n_cl, Nat.reduceEqDiff, reduceIte, if_pos, if_neg, if_true, if_false, true_and, and_true, Nat.mul_zero, Nat.zero_add, Nat.add_zero, Nat.reduceAdd, Nat.reduceMul, Nat.reduceSub, li_0, li_1, li_2, li_3, li_4, li_5, li_6, li_7, li_8, li_9, li_10, li_11, li_12, li_13, li_14, li_15, li_16, li_20, li_24, li_28, li_31, li_35, li_38, li_40, li_41, li_45, li_48, li_60, li_62, li_63, li_97, li_100, li_104, li_105, li_120, li_124, li_127, li_180, li_239, li_240, li_255, li_256, li_300, li_400, li_960, li_1000000]
theorem gn_size {σ : St} {F j : Nat} (h0 : σ.1 0 0 = nI F) (hF : F ≤ 240) (hj : j < F) : mX1_size σ (nI j) = some (σ.1 16 j) := by
  simp (disch := omega) only [mX1_size, h0, bnd_e, ob_s, su_1, su_2, sl_1, sl_2, ck_n, ck_Z0, ck_Z1, c_lt, c_le, c_eq, ng_1, m_ne, m_en, m_lt, m_le, m_gt, m_ge, n_add, n_mul, n_sub, n_sm, n_pm, n_0m, n_cl, Nat.reduceEqDiff, reduceIte, if_pos, if_neg, if_true, if_false, true_and, and_true, Nat.mul_zero, Nat.zero_add, Nat.add_zero, Nat.reduceAdd, Nat.reduceMul, Nat.reduceSub, li_0, li_1, li_2, li_3, li_4, li_5, li_6, li_7, li_8, li_9, li_10, li_11, li_12, li_13, li_14, li_15, li_16, li_20, li_24, li_28, li_31, li_35, li_38, li_40, li_41, li_45, li_48, li_60, li_62, li_63, li_97, li_100, li_104, li_105, li_120, li_124, li_127, li_180, li_239, li_240, li_255, li_256, li_300, li_400, li_960, li_1000000]
theorem gn_width {σ : St} {F j : Nat} (h0 : σ.1 0 0 = nI F) (hF : F ≤ 240) (hj : j < F) : mX1_width σ (nI j) = some (σ.1 17 j) := by
  simp (disch := omega) only [mX1_width, h0, bnd_e, ob_s, su_1, su_2, sl_1, sl_2, ck_n, ck_Z0, ck_Z1, c_lt, c_le, c_eq, ng_1, m_ne, m_en, m_lt, m_le, m_gt, m_ge, n_add, n_mul, n_sub, n_sm, n_pm, n_0m, n_cl, Nat.reduceEqDiff, reduceIte, if_pos, if_neg, if_true, if_false, true_and, and_true, Nat.mul_zero, Nat.zero_add, Nat.add_zero, Nat.reduceAdd, Nat.reduceMul, Nat.reduceSub, li_0, li_1, li_2, li_3, li_4, li_5, li_6, li_7, li_8, li_9, li_10, li_11, li_12, li_13, li_14, li_15, li_16, li_20, li_24, li_28, li_31, li_35, li_38, li_40, li_41, li_45, li_48, li_60, li_62, li_63, li_97, li_100, li_104, li_105, li_120, li_124, li_127, li_180, li_239, li_240, li_255, li_256, li_300, li_400, li_960, li_1000000]
theorem gn_first {σ : St} {F j : Nat} (h0 : σ.1 0 0 = nI F) (hF : F ≤ 240) (hj : j < F) : mX1_first σ (nI j) = some (σ.1 13 j) := by
  simp (disch := omega) only [mX1_first, h0, bnd_e, ob_s, su_1, su_2, sl_1, sl_2, ck_n, ck_Z0, ck_Z1, c_lt, c_le, c_eq, ng_1, m_ne, m_en, m_lt, m_le, m_gt, m_ge, n_add, n_mul, n_sub, n_sm, n_pm, n_0m, n_cl, Nat.reduceEqDiff, reduceIte, if_pos, if_neg, if_true, if_false, true_and, and_true, Nat.mul_zero, Nat.zero_add, Nat.add_zero, Nat.reduceAdd, Nat.reduceMul, Nat.reduceSub, li_0, li_1, li_2, li_3, li_4, li_5, li_6, li_7, li_8, li_9, li_10, li_11, li_12, li_13, li_14, li_15, li_16, li_20, li_24, li_28, li_31, li_35, li_38, li_40, li_41, li_45, li_48, li_60, li_62, li_63, li_97, li_100, li_104, li_105, li_120, li_124, li_127, li_180, li_239, li_240, li_255, li_256, li_300, li_400, li_960, li_1000000]
theorem gn_second {σ : St} {F j : Nat} (h0 : σ.1 0 0 = nI F) (hF : F ≤ 240) (hj : j < F) : mX1_second σ (nI j) = some (σ.1 14 j) := by
  simp (disch := omega) only [mX1_second, h0, bnd_e, ob_s, su_1, su_2, sl_1, sl_2, ck_n, ck_Z0, ck_Z1, c_lt, c_le, c_eq, ng_1, m_ne, m_en, m_lt, m_le, m_gt, m_ge, n_add, n_mul, n_sub, n_sm, n_pm, n_0m, n_cl, Nat.reduceEqDiff, reduceIte, if_pos, if_neg, if_true, if_false, true_and, and_true, Nat.mul_zero, Nat.zero_add, Nat.add_zero, Nat.reduceAdd, Nat.reduceMul, Nat.reduceSub, li_0, li_1, li_2, li_3, li_4, li_5, li_6, li_7, li_8, li_9, li_10, li_11, li_12, li_13, li_14, li_15, li_16, li_20, li_24, li_28, li_31, li_35, li_38, li_40, li_41, li_45, li_48, li_60, li_62, li_63, li_97, li_100, li_104, li_105, li_120, li_124, li_127, li_180, li_239, li_240, li_255, li_256, li_300, li_400, li_960, li_1000000]
theorem gn_truth {σ : St} {F j w : Nat} (h0 : σ.1 0 0 = nI F) (hF : F ≤ 240) (hj : j < F) (hw : w < 4) : mX1_truth σ (nI j) (nI w) = some (σ.2 (4 * j + w)) := by
  simp (disch := omega) only [mX1_truth, h0, bnd_e, ob_s, su_1, su_2, sl_1, sl_2, ck_n, ck_Z0, ck_Z1, c_lt, c_le, c_eq, ng_1, m_ne, m_en, m_lt, m_le, m_gt, m_ge, n_add, n_mul, n_sub, n_sm, n_pm, n_0m, n_cl, Nat.reduceEqDiff, reduceIte, if_pos, if_neg, if_true, if_false, true_and, and_true, Nat.mul_zero, Nat.zero_add, Nat.add_zero, Nat.reduceAdd, Nat.reduceMul, Nat.reduceSub, li_0, li_1, li_2, li_3, li_4, li_5, li_6, li_7, li_8, li_9, li_10, li_11, li_12, li_13, li_14, li_15, li_16, li_20, li_24, li_28, li_31, li_35, li_38, li_40, li_41, li_45, li_48, li_60, li_62, li_63, li_97, li_100, li_104, li_105, li_120, li_124, li_127, li_180, li_239, li_240, li_255, li_256, li_300, li_400, li_960, li_1000000, Nat.mul_comm j 4]
theorem cut_n {a : Nat} (ha : a < 2147483648) : cutI (nI a) = nI (min 1000000 a) := by
  unfold cutI
  by_cases h : a < 1000000
  · rw [if_pos (by rw [c_lt ha (by omega)]; exact h)]
    congr 1; omega
  · rw [if_neg (by rw [c_lt ha (by omega)]; exact h)]
    congr 1; omega
theorem lI_z (b : Bool) : lI (zB b) = nI (if b then 2 else 0) := by cases b <;> rfl
theorem br_len (b : Bool) (l : List Int32) : (br b l).length = l.length + (if b then 2 else 0) := by
  cases b <;> simp [br]
theorem RF.le {F : Nat} {σ τ : St} (h : RF F σ τ) : F ≤ 240 := h.1.1
theorem RF.f3 {F : Nat} {σ τ : St} (h : RF F σ τ) : FE3 F σ τ := fun j hj => ⟨(h.2.1 j hj).1.1, (h.2.1 j hj).1.2.1, (h.2.1 j hj).1.2.2.1⟩
theorem RF.tr {F : Nat} {σ τ : St} (h : RF F σ τ) : ∀ j, j < F → ∀ k, k < 256 → τ.1 20 (256 * j + k) = zB (btL (σ.2 (4 * j + k / 64)) (k % 64)) := fun j hj k hk => (h.2.1 j hj).2.2.2.2 k hk
theorem RF.sz {F : Nat} {σ τ : St} (h : RF F σ τ) {j : Nat} (hj : j < F) : ∃ z, 1 ≤ z ∧ z ≤ 1000000 ∧ τ.1 19 j = nI z ∧ σ.1 16 j = nI z := by
  obtain ⟨z, a, b, c⟩ := (h.2.1 j hj).2.2.1
  exact ⟨z, a, b, c, (h.2.1 j hj).1.2.2.2.2.trans c⟩
theorem RF.st {F : Nat} {σ τ : St} (h : RF F σ τ) {j : Nat} (hj : j < F) : ∃ s, s ≤ 5 ∧ τ.1 15 j = nI s ∧ σ.1 12 j = nI s ∧ AG j s (τ.1 16 j) (τ.1 17 j) := by
  obtain ⟨s, a, b, c, _⟩ := (h.2.1 j hj).2.1
  exact ⟨s, a, b, (h.2.1 j hj).1.1.trans b, c⟩
/-- the writing of a formula, by its parts -/
theorem RF.wt {F : Nat} {σ τ : St} (h : RF F σ τ) {j s : Nat} (hj : j < F) (hs : τ.1 15 j = nI s) (hs5 : s ≤ 5) :
    (s = 0 → ∀ l, l < 8 → τ.1 16 j = nI l → WT τ.1 j = [nI (97 + l)]) ∧ (s = 1 → WT τ.1 j = [nI 35]) ∧
    (s = 2 → ∀ p, p < j → τ.1 16 j = nI p → WT τ.1 j = nI 45 :: br (decide (3 ≤ (τ.1 15 p).toNatClampNeg)) (WT τ.1 p)) ∧
    (3 ≤ s → ∀ p q, p < j → q < j → τ.1 16 j = nI p → τ.1 17 j = nI q → WT τ.1 j = br (decide ((if s = 5 then 5 else s + 1) ≤ (τ.1 15 p).toNatClampNeg)) (WT τ.1 p) ++ opb s :: br (decide ((if s = 5 then 6 else s) ≤ (τ.1 15 q).toNatClampNeg)) (WT τ.1 q)) := by
  have hF := h.le
  refine ⟨fun e l hl h1 => ?_, fun e => ?_, fun e p hp h1 => ?_, fun e p q hp hq h1 h2 => ?_⟩
  · subst e; simp (disch := omega) only [WT, wr, hs, h1, bnd_e, ob_s, su_1, su_2, sl_1, sl_2, ck_n, ck_Z0, ck_Z1, c_lt, c_le, c_eq, ng_1, m_ne, m_en, m_lt, m_le, m_gt, m_ge, n_add, n_mul, n_sub, n_sm, n_pm, n_0m, n_cl, Nat.reduceEqDiff, reduceIte, if_pos, if_neg, if_true, if_false, true_and, and_true, Nat.mul_zero, Nat.zero_add, Nat.add_zero, Nat.reduceAdd, Nat.reduceMul, Nat.reduceSub, li_0, li_1, li_2, li_3, li_4, li_5, li_6, li_7, li_8, li_9, li_10, li_11, li_12, li_13, li_14, li_15, li_16, li_20, li_24, li_28, li_31, li_35, li_38, li_40, li_41, li_45, li_48, li_60, li_62, li_63, li_97, li_100, li_104, li_105, li_120, li_124, li_127, li_180, li_239, li_240, li_255, li_256, li_300, li_400, li_960, li_1000000]
  · subst e; simp (disch := omega) only [WT, wr, hs, bnd_e, ob_s, su_1, su_2, sl_1, sl_2, ck_n, ck_Z0, ck_Z1, c_lt, c_le, c_eq, ng_1, m_ne, m_en, m_lt, m_le, m_gt, m_ge, n_add, n_mul, n_sub, n_sm, n_pm, n_0m, n_cl, Nat.reduceEqDiff, reduceIte, if_pos, if_neg, if_true, if_false, true_and, and_true, Nat.mul_zero, Nat.zero_add, Nat.add_zero, Nat.reduceAdd, Nat.reduceMul, Nat.reduceSub, li_0, li_1, li_2, li_3, li_4, li_5, li_6, li_7, li_8, li_9, li_10, li_11, li_12, li_13, li_14, li_15, li_16, li_20, li_24, li_28, li_31, li_35, li_38, li_40, li_41, li_45, li_48, li_60, li_62, li_63, li_97, li_100, li_104, li_105, li_120, li_124, li_127, li_180, li_239, li_240, li_255, li_256, li_300, li_400, li_960, li_1000000]
  · subst e
    have e1 := wr_f hF h.ag j p (by omega) (by omega)
    simp (disch := omega) only [WT, wr, hs, h1, e1, bnd_e, ob_s, su_1, su_2, sl_1, sl_2, ck_n, ck_Z0, ck_Z1, c_lt, c_le, c_eq, ng_1, m_ne, m_en, m_lt, m_le, m_gt, m_ge, n_add, n_mul, n_sub, n_sm, n_pm, n_0m, n_cl, Nat.reduceEqDiff, reduceIte, if_pos, if_neg, if_true, if_false, true_and, and_true, Nat.mul_zero, Nat.zero_add, Nat.add_zero, Nat.reduceAdd, Nat.reduceMul, Nat.reduceSub, li_0, li_1, li_2, li_3, li_4, li_5, li_6, li_7, li_8, li_9, li_10, li_11, li_12, li_13, li_14, li_15, li_16, li_20, li_24, li_28, li_31, li_35, li_38, li_40, li_41, li_45, li_48, li_60, li_62, li_63, li_97, li_100, li_104, li_105, li_120, li_124, li_127, li_180, li_239, li_240, li_255, li_256, li_300, li_400, li_960, li_1000000]
  · have e1 := wr_f hF h.ag j p (by omega) (by omega)
    have e2 := wr_f hF h.ag j q (by omega) (by omega)
    unfold WT at e1 e2
    simp (disch := omega) only [WT, wr, hs, h1, h2, e1, e2, bnd_e, ob_s, su_1, su_2, sl_1, sl_2, ck_n, ck_Z0, ck_Z1, c_lt, c_le, c_eq, ng_1, m_ne, m_en, m_lt, m_le, m_gt, m_ge, n_add, n_mul, n_sub, n_sm, n_pm, n_0m, n_cl, Nat.reduceEqDiff, reduceIte, if_pos, if_neg, if_true, if_false, true_and, and_true, Nat.mul_zero, Nat.zero_add, Nat.add_zero, Nat.reduceAdd, Nat.reduceMul, Nat.reduceSub, li_0, li_1, li_2, li_3, li_4, li_5, li_6, li_7, li_8, li_9, li_10, li_11, li_12, li_13, li_14, li_15, li_16, li_20, li_24, li_28, li_31, li_35, li_38, li_40, li_41, li_45, li_48, li_60, li_62, li_63, li_97, li_100, li_104, li_105, li_120, li_124, li_127, li_180, li_239, li_240, li_255, li_256, li_300, li_400, li_960, li_1000000]
/-- the class's arguments mean the same -/
def CG (s : Nat) (x y f g : Int32) : Prop := (s = 0 ∧ f = x) ∨ s = 1 ∨ (s = 2 ∧ f = x) ∨ (3 ≤ s ∧ f = x ∧ g = y)
theorem num_34 {F s l p q : Nat} {σ τ : St} (h : RF F σ τ) {x y f g : Int32} (ha : AX F s l p q x y) (hc : CG s x y f g) : mX1_number σ (nI s) f g = mX1_number_34 σ (nI s) x y := by
  have hF := h.le
  have h0 := h.1.2.1
  rcases ha with ⟨rfl, hl, rfl, rfl⟩ | ⟨rfl, rfl, rfl⟩ | ⟨rfl, hp, rfl, rfl⟩ | ⟨h3, h5, hp, hq, rfl, rfl⟩
  · rcases hc with ⟨_, rfl⟩ | hc | ⟨hc, _⟩ | ⟨hc, _⟩
    · simp (disch := omega) only [mX1_number, mX1_hasParts, mX1_number_22, h0, bnd_e, ob_s, su_1, su_2, sl_1, sl_2, ck_n, ck_Z0, ck_Z1, c_lt, c_le, c_eq, ng_1, m_ne, m_en, m_lt, m_le, m_gt, m_ge, n_add, n_mul, n_sub, n_sm, n_pm, n_0m, n_cl, Nat.reduceEqDiff, reduceIte, if_pos, if_neg, if_true, if_false, true_and, and_true, Nat.mul_zero, Nat.zero_add, Nat.add_zero, Nat.reduceAdd, Nat.reduceMul, Nat.reduceSub, li_0, li_1, li_2, li_3, li_4, li_5, li_6, li_7, li_8, li_9, li_10, li_11, li_12, li_13, li_14, li_15, li_16, li_20, li_24, li_28, li_31, li_35, li_38, li_40, li_41, li_45, li_48, li_60, li_62, li_63, li_97, li_100, li_104, li_105, li_120, li_124, li_127, li_180, li_239, li_240, li_255, li_256, li_300, li_400, li_960, li_1000000]
    all_goals omega
  · simp (disch := omega) only [mX1_number, mX1_hasParts, mX1_number_22, h0, bnd_e, ob_s, su_1, su_2, sl_1, sl_2, ck_n, ck_Z0, ck_Z1, c_lt, c_le, c_eq, ng_1, m_ne, m_en, m_lt, m_le, m_gt, m_ge, n_add, n_mul, n_sub, n_sm, n_pm, n_0m, n_cl, Nat.reduceEqDiff, reduceIte, if_pos, if_neg, if_true, if_false, true_and, and_true, Nat.mul_zero, Nat.zero_add, Nat.add_zero, Nat.reduceAdd, Nat.reduceMul, Nat.reduceSub, li_0, li_1, li_2, li_3, li_4, li_5, li_6, li_7, li_8, li_9, li_10, li_11, li_12, li_13, li_14, li_15, li_16, li_20, li_24, li_28, li_31, li_35, li_38, li_40, li_41, li_45, li_48, li_60, li_62, li_63, li_97, li_100, li_104, li_105, li_120, li_124, li_127, li_180, li_239, li_240, li_255, li_256, li_300, li_400, li_960, li_1000000]
  · rcases hc with ⟨hc, rfl⟩ | hc | ⟨_, rfl⟩ | ⟨hc, _⟩
    · omega
    · omega
    · simp (disch := omega) only [mX1_number, mX1_hasParts, mX1_isKnown, mX1_number_22, h0, bnd_e, ob_s, su_1, su_2, sl_1, sl_2, ck_n, ck_Z0, ck_Z1, c_lt, c_le, c_eq, ng_1, m_ne, m_en, m_lt, m_le, m_gt, m_ge, n_add, n_mul, n_sub, n_sm, n_pm, n_0m, n_cl, Nat.reduceEqDiff, reduceIte, if_pos, if_neg, if_true, if_false, true_and, and_true, Nat.mul_zero, Nat.zero_add, Nat.add_zero, Nat.reduceAdd, Nat.reduceMul, Nat.reduceSub, li_0, li_1, li_2, li_3, li_4, li_5, li_6, li_7, li_8, li_9, li_10, li_11, li_12, li_13, li_14, li_15, li_16, li_20, li_24, li_28, li_31, li_35, li_38, li_40, li_41, li_45, li_48, li_60, li_62, li_63, li_97, li_100, li_104, li_105, li_120, li_124, li_127, li_180, li_239, li_240, li_255, li_256, li_300, li_400, li_960, li_1000000]
    · omega
  · rcases hc with ⟨hc, rfl⟩ | hc | ⟨hc, rfl⟩ | ⟨_, rfl, rfl⟩
    · omega
    · omega
    · omega
    · have h1 : ¬ s = 0 := by omega
      have h2 : ¬ s = 1 := by omega
      simp (disch := omega) only [mX1_number, mX1_hasParts, mX1_isKnown, mX1_number_22, h0, h1, h2, bnd_e, ob_s, su_1, su_2, sl_1, sl_2, ck_n, ck_Z0, ck_Z1, c_lt, c_le, c_eq, ng_1, m_ne, m_en, m_lt, m_le, m_gt, m_ge, n_add, n_mul, n_sub, n_sm, n_pm, n_0m, n_cl, Nat.reduceEqDiff, reduceIte, if_pos, if_neg, if_true, if_false, true_and, and_true, Nat.mul_zero, Nat.zero_add, Nat.add_zero, Nat.reduceAdd, Nat.reduceMul, Nat.reduceSub, li_0, li_1, li_2, li_3, li_4, li_5, li_6, li_7, li_8, li_9, li_10, li_11, li_12, li_13, li_14, li_15, li_16, li_20, li_24, li_28, li_31, li_35, li_38, li_40, li_41, li_45, li_48, li_60, li_62, li_63, li_97, li_100, li_104, li_105, li_120, li_124, li_127, li_180, li_239, li_240, li_255, li_256, li_300, li_400, li_960, li_1000000]
theorem btT {T : Nat → Int64} {k : Nat} {b : Bool} {t : Int64} (h : T (k / 64) = t) (hb : btL t (k % 64) = b) : btL (T (k / 64)) (k % 64) = b := by rw [h]; exact hb
/-- the words of the new formula tell the same -/
theorem TW_b {σ : St} {F s l p q : Nat} (hF : F ≤ 240) (h0 : σ.1 0 0 = nI F) {x y : Int32} (ha : AX F s l p q x y) {T : Nat → Int64}
    (hT : ∀ w, w < 4 → TW σ (nI s) x (if nI s < nI 2 then mI else x) y w = some (T w)) : ∀ k, k < 256 → btL (T (k / 64)) (k % 64) = VB σ s l p q k := by
  intro k hk
  have hw : k / 64 < 4 := by omega
  have hm : k % 64 < 64 := Nat.mod_lt _ (by decide)
  have t := hT (k / 64) hw
  unfold TW at t
  rcases ha with ⟨rfl, hl, rfl, rfl⟩ | ⟨rfl, rfl, rfl⟩ | ⟨rfl, hp, rfl, rfl⟩ | ⟨h3, h5, hp, hq, rfl, rfl⟩
  · rw [if_pos rfl] at t
    obtain ⟨t', e1, e2⟩ := tl_b σ l hl _ hw
    rw [e1] at t
    rw [← Option.some.inj t, e2 _ hm]
    have : 64 * (k / 64) + k % 64 = k := by omega
    rw [this]; rfl
  · have : T (k / 64) = 0 := by
      rw [if_neg (by decide), if_pos (by decide), gm_truth, ob_s, ob_s] at t
      exact (Option.some.inj t).symm
    rw [this, btL_0]; rfl
  · rw [if_neg (by decide), if_neg (by decide), gn_truth h0 hF hp hw, ob_s, gm_truth, ob_s] at t
    have e : mX1_truthOfParts σ (nI 2) (σ.2 (4 * p + k / 64)) 0 = some (σ.2 (4 * p + k / 64) ^^^ (-1)) := rfl
    rw [e] at t
    rw [← Option.some.inj t, btL_not _ _ hm]; rfl
  · have n2 : ¬ nI s < nI 2 := by rw [c_lt (by omega) (by omega)]; omega
    have n0 : ¬ nI s = nI 0 := by rw [c_eq (by omega) (by omega)]; omega
    rw [if_neg n0, if_neg n2, gn_truth h0 hF hp hw, ob_s, gn_truth h0 hF hq hw, ob_s] at t
    have h345 : s = 3 ∨ s = 4 ∨ s = 5 := by omega
    rcases h345 with rfl | rfl | rfl
    · have e : ∀ a b, mX1_truthOfParts σ (nI 3) a b = some (a &&& b) := fun _ _ => rfl
      rw [e] at t
      rw [← Option.some.inj t, btL_and]; rfl
    · have e : ∀ a b, mX1_truthOfParts σ (nI 4) a b = some (a ||| b) := fun _ _ => rfl
      rw [e] at t
      rw [← Option.some.inj t, btL_or]; rfl
    · have e : ∀ a b, mX1_truthOfParts σ (nI 5) a b = some ((a ^^^ (-1)) ||| b) := fun _ _ => rfl
      rw [e] at t
      rw [← Option.some.inj t, btL_or, btL_not _ _ hm]; rfl
