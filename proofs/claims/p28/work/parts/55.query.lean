theorem nle_T {a b : Nat} (h : a ≤ b) : (a ≤ b) = True := eq_true h
theorem nle_F {a b : Nat} (h : b < a) : (a ≤ b) = False := eq_false (by omega)
theorem nlt_T {a b : Nat} (h : a < b) : (a < b) = True := eq_true h
theorem nlt_F {a b : Nat} (h : b ≤ a) : (a < b) = False := eq_false (by omega)
theorem neq_T {a b : Nat} (h : a = b) : (a = b) = True := eq_true h
theorem neq_F {a b : Nat} (h : a ≠ b) : (a = b) = False := eq_false h
/-- how many premises the proof begins with -/
def PM2 (g : Nat → Nat → Int32) (L m : Nat) : Prop := m ≤ 2 ∧ m ≤ L ∧ ∀ k, k < L → (g 22 k = nI 15 ↔ k < m)
theorem prem_ex {F T L B O : Nat} {inn : Int32} {g : Nat → Nat → Int32} {e : Nat → Int32} (h : Inv F T L B O inn g e) : ∃ m, PM2 g L m := by
  have hp := h.2.2.1
  by_cases h0 : 0 < L ∧ g 22 0 = nI 15
  · by_cases h1 : 1 < L ∧ g 22 1 = nI 15
    · refine ⟨2, by omega, by omega, fun k hk => ⟨fun e => (hp k hk e).1, fun e => ?_⟩⟩
      have : k = 0 ∨ k = 1 := by omega
      rcases this with rfl | rfl
      · exact h0.2
      · exact h1.2
    · refine ⟨1, by omega, by omega, fun k hk => ⟨fun e => ?_, fun e => ?_⟩⟩
      · have := (hp k hk e).1
        have : k = 0 ∨ k = 1 := by omega
        rcases this with rfl | rfl
        · omega
        · exact (h1 ⟨hk, e⟩).elim
      · have : k = 0 := by omega
        subst this; exact h0.2
  · refine ⟨0, by omega, by omega, fun k hk => ⟨fun e => ?_, fun e => by omega⟩⟩
    have := (hp k hk e).1
    have : k = 0 ∨ k = 1 := by omega
    rcases this with rfl | rfl
    · exact (h0 ⟨hk, e⟩).elim
    · exact (h0 ⟨by omega, (hp 1 hk e).2 0 (by omega)⟩).elim
theorem NF_5 : ∃ n, NF = n + 1 + 1 + 1 + 1 + 1 + 1 := ⟨994, rfl⟩
/-- the class's count of them -/
theorem x3_prem {σ : St} {g : Nat → Nat → Int32} {L m : Nat} (hL : L ≤ 60) (h8 : σ.1 8 0 = nI L) (h30 : σ.1 30 = g 22) (h : PM2 g L m) : mX3_premiseCount σ = some (nI m) := by
  obtain ⟨m1, m2, m3⟩ := h
  rw [← h30] at m3
  have step : ∀ k n c, k < 2 → k < L → c ≤ k → mX3_premiseCount_4 (n + 1) σ (nI c) (nI k) = mX3_premiseCount_4 n σ (nI (if k < m then c + 1 else c)) (nI (k + 1)) := by
    intro k n c hk hk2 hc
    by_cases hkm : k < m
    · have := (m3 k hk2).mpr hkm
      rw [if_pos hkm]
      simp (disch := omega) only [fx_s, bX3_premiseCount_4, mX3_premiseCount_34, h8, this, ↓bnd_e, ↓ob_s, ob_s, su_1, su_2, sl_1, sl_2, ↓ck_n, ck_n, ck_Z0, ck_Z1, c_lt, c_le, c_eq, ng_1, m_ne, m_en, m_lt, m_le, m_gt, m_ge, n_add, n_mul, n_sub, n_sm, n_pm, n_0m, n_cl, Nat.reduceEqDiff, ↓reduceIte, nle_T, nle_F, nlt_T, nlt_F, neq_F, neq_T, if_true, if_false, true_and, and_true, Nat.mul_zero, Nat.zero_add, Nat.add_zero, Nat.reduceAdd, Nat.reduceMul, Nat.reduceSub, li_0, li_1, li_2, li_3, li_4, li_5, li_6, li_7, li_8, li_9, li_10, li_11, li_12, li_13, li_14, li_15, li_16, li_20, li_24, li_28, li_31, li_35, li_38, li_40, li_41, li_45, li_48, li_60, li_62, li_63, li_97, li_100, li_104, li_105, li_120, li_124, li_127, li_180, li_239, li_240, li_255, li_256, li_300, li_400, li_960, li_1000000]
    · have : ¬ σ.1 30 k = nI 15 := fun h => hkm ((m3 k hk2).mp h)
      rw [if_neg hkm]
      simp (disch := omega) only [fx_s, bX3_premiseCount_4, mX3_premiseCount_34, h8, this, ↓bnd_e, ↓ob_s, ob_s, su_1, su_2, sl_1, sl_2, ↓ck_n, ck_n, ck_Z0, ck_Z1, c_lt, c_le, c_eq, ng_1, m_ne, m_en, m_lt, m_le, m_gt, m_ge, n_add, n_mul, n_sub, n_sm, n_pm, n_0m, n_cl, Nat.reduceEqDiff, ↓reduceIte, nle_T, nle_F, nlt_T, nlt_F, neq_F, neq_T, if_true, if_false, true_and, and_true, Nat.mul_zero, Nat.zero_add, Nat.add_zero, Nat.reduceAdd, Nat.reduceMul, Nat.reduceSub, li_0, li_1, li_2, li_3, li_4, li_5, li_6, li_7, li_8, li_9, li_10, li_11, li_12, li_13, li_14, li_15, li_16, li_20, li_24, li_28, li_31, li_35, li_38, li_40, li_41, li_45, li_48, li_60, li_62, li_63, li_97, li_100, li_104, li_105, li_120, li_124, li_127, li_180, li_239, li_240, li_255, li_256, li_300, li_400, li_960, li_1000000]
  have out : ∀ k n c, (k = 2 ∨ k = L) → k ≤ 60 → c ≤ k → mX3_premiseCount_4 (n + 1) σ (nI c) (nI k) = some (nI c) := by
    intro k n c hk h60 hc
    by_cases hkL : L ≤ k
    · simp (disch := omega) only [fx_s, bX3_premiseCount_4, h8, ↓bnd_e, ↓ob_s, ob_s, su_1, su_2, sl_1, sl_2, ↓ck_n, ck_n, ck_Z0, ck_Z1, c_lt, c_le, c_eq, ng_1, m_ne, m_en, m_lt, m_le, m_gt, m_ge, n_add, n_mul, n_sub, n_sm, n_pm, n_0m, n_cl, Nat.reduceEqDiff, ↓reduceIte, nle_T, nle_F, nlt_T, nlt_F, neq_F, neq_T, if_true, if_false, true_and, and_true, Nat.mul_zero, Nat.zero_add, Nat.add_zero, Nat.reduceAdd, Nat.reduceMul, Nat.reduceSub, li_0, li_1, li_2, li_3, li_4, li_5, li_6, li_7, li_8, li_9, li_10, li_11, li_12, li_13, li_14, li_15, li_16, li_20, li_24, li_28, li_31, li_35, li_38, li_40, li_41, li_45, li_48, li_60, li_62, li_63, li_97, li_100, li_104, li_105, li_120, li_124, li_127, li_180, li_239, li_240, li_255, li_256, li_300, li_400, li_960, li_1000000]
    · simp (disch := omega) only [fx_s, bX3_premiseCount_4, h8, ↓bnd_e, ↓ob_s, ob_s, su_1, su_2, sl_1, sl_2, ↓ck_n, ck_n, ck_Z0, ck_Z1, c_lt, c_le, c_eq, ng_1, m_ne, m_en, m_lt, m_le, m_gt, m_ge, n_add, n_mul, n_sub, n_sm, n_pm, n_0m, n_cl, Nat.reduceEqDiff, ↓reduceIte, nle_T, nle_F, nlt_T, nlt_F, neq_F, neq_T, if_true, if_false, true_and, and_true, Nat.mul_zero, Nat.zero_add, Nat.add_zero, Nat.reduceAdd, Nat.reduceMul, Nat.reduceSub, li_0, li_1, li_2, li_3, li_4, li_5, li_6, li_7, li_8, li_9, li_10, li_11, li_12, li_13, li_14, li_15, li_16, li_20, li_24, li_28, li_31, li_35, li_38, li_40, li_41, li_45, li_48, li_60, li_62, li_63, li_97, li_100, li_104, li_105, li_120, li_124, li_127, li_180, li_239, li_240, li_255, li_256, li_300, li_400, li_960, li_1000000]
  obtain ⟨nf, hnf⟩ := NF_5
  unfold mX3_premiseCount
  rw [hnf]
  by_cases l0 : L = 0
  · have : m = 0 := by omega
    subst this
    exact out 0 _ 0 (Or.inr l0.symm) (by omega) (by omega)
  · refine (step 0 _ 0 (by omega) (by omega) (by omega)).trans ?_
    by_cases l1 : L = 1
    · refine (out 1 _ _ (Or.inr l1.symm) (by omega) (by split <;> omega)).trans ?_
      congr 2; split <;> omega
    · refine (step 1 _ _ (by omega) (by omega) (by split <;> omega)).trans ?_
      refine (out 2 _ _ (Or.inl rfl) (by omega) (by split <;> split <;> omega)).trans ?_
      congr 2; split <;> split <;> omega
/-- the other side's -/
theorem x8_prem {τ : St} {L m : Nat} (hL : L ≤ 60) (h6 : τ.1 6 0 = nI L) (h : PM2 τ.1 L m) : mX8_premisesNow τ = some (nI m) := by
  obtain ⟨m1, m2, m3⟩ := h
  have step : ∀ k n, k < m → mX8_premisesNow_2 (n + 1) τ (nI k) = mX8_premisesNow_2 n τ (nI (k + 1)) := by
    intro k n hk
    have := (m3 k (by omega)).mpr hk
    simp (disch := omega) only [fx_s, bX8_premisesNow_2, h6, this, ↓bnd_e, ↓ob_s, ob_s, su_1, su_2, sl_1, sl_2, ↓ck_n, ck_n, ck_Z0, ck_Z1, c_lt, c_le, c_eq, ng_1, m_ne, m_en, m_lt, m_le, m_gt, m_ge, n_add, n_mul, n_sub, n_sm, n_pm, n_0m, n_cl, Nat.reduceEqDiff, ↓reduceIte, nle_T, nle_F, nlt_T, nlt_F, neq_F, neq_T, if_true, if_false, true_and, and_true, Nat.mul_zero, Nat.zero_add, Nat.add_zero, Nat.reduceAdd, Nat.reduceMul, Nat.reduceSub, li_0, li_1, li_2, li_3, li_4, li_5, li_6, li_7, li_8, li_9, li_10, li_11, li_12, li_13, li_14, li_15, li_16, li_20, li_24, li_28, li_31, li_35, li_38, li_40, li_41, li_45, li_48, li_60, li_62, li_63, li_97, li_100, li_104, li_105, li_120, li_124, li_127, li_180, li_239, li_240, li_255, li_256, li_300, li_400, li_960, li_1000000]
  have last : ∀ n, mX8_premisesNow_2 (n + 1) τ (nI m) = some (nI m) := by
    intro n
    by_cases hm : m = L
    · simp (disch := omega) only [fx_s, bX8_premisesNow_2, h6, hm, ↓bnd_e, ↓ob_s, ob_s, su_1, su_2, sl_1, sl_2, ↓ck_n, ck_n, ck_Z0, ck_Z1, c_lt, c_le, c_eq, ng_1, m_ne, m_en, m_lt, m_le, m_gt, m_ge, n_add, n_mul, n_sub, n_sm, n_pm, n_0m, n_cl, Nat.reduceEqDiff, ↓reduceIte, nle_T, nle_F, nlt_T, nlt_F, neq_F, neq_T, if_true, if_false, true_and, and_true, Nat.mul_zero, Nat.zero_add, Nat.add_zero, Nat.reduceAdd, Nat.reduceMul, Nat.reduceSub, li_0, li_1, li_2, li_3, li_4, li_5, li_6, li_7, li_8, li_9, li_10, li_11, li_12, li_13, li_14, li_15, li_16, li_20, li_24, li_28, li_31, li_35, li_38, li_40, li_41, li_45, li_48, li_60, li_62, li_63, li_97, li_100, li_104, li_105, li_120, li_124, li_127, li_180, li_239, li_240, li_255, li_256, li_300, li_400, li_960, li_1000000]
    · have : ¬ τ.1 22 m = nI 15 := fun h => by have := (m3 m (by omega)).mp h; omega
      simp (disch := omega) only [fx_s, bX8_premisesNow_2, h6, this, ↓bnd_e, ↓ob_s, ob_s, su_1, su_2, sl_1, sl_2, ↓ck_n, ck_n, ck_Z0, ck_Z1, c_lt, c_le, c_eq, ng_1, m_ne, m_en, m_lt, m_le, m_gt, m_ge, n_add, n_mul, n_sub, n_sm, n_pm, n_0m, n_cl, Nat.reduceEqDiff, ↓reduceIte, nle_T, nle_F, nlt_T, nlt_F, neq_F, neq_T, if_true, if_false, true_and, and_true, Nat.mul_zero, Nat.zero_add, Nat.add_zero, Nat.reduceAdd, Nat.reduceMul, Nat.reduceSub, li_0, li_1, li_2, li_3, li_4, li_5, li_6, li_7, li_8, li_9, li_10, li_11, li_12, li_13, li_14, li_15, li_16, li_20, li_24, li_28, li_31, li_35, li_38, li_40, li_41, li_45, li_48, li_60, li_62, li_63, li_97, li_100, li_104, li_105, li_120, li_124, li_127, li_180, li_239, li_240, li_255, li_256, li_300, li_400, li_960, li_1000000]
  unfold mX8_premisesNow
  obtain ⟨nf, hnf⟩ := NF_5
  rw [hnf]
  have : m = 0 ∨ m = 1 ∨ m = 2 := by omega
  rcases this with rfl | rfl | rfl
  · exact last _
  · exact (step 0 _ (by omega)).trans (last _)
  · exact (step 0 _ (by omega)).trans ((step 1 _ (by omega)).trans (last _))
/-- the boxes around -/
def DP (B : Nat) (g : Nat → Nat → Int32) (d : Nat → Nat) : Prop := ∀ b, b < B → 1 ≤ d b ∧ d b ≤ 6 ∧ ((g 27 b = mI ∧ d b = 1) ∨ ∃ o, o < b ∧ g 27 b = nI o ∧ d b = d o + 1)
theorem x8_open {τ : St} {B : Nat} {d : Nat → Nat} (hB : B ≤ 60) (hd : DP B τ.1 d) : ∀ i b n c, b < B → d b = i → i < n → c + i < 1000 →
    mX8_open_7 n τ (nI c) (nI b) = some (nI (c + i)) := by
  intro i
  induction i with
  | zero => intro b n c hb hi; have := (hd b hb).1; omega
  | succ i ih =>
    intro b n c hb hi hn hc
    obtain ⟨n, rfl⟩ : ∃ m, n = m + 1 := ⟨n - 1, by omega⟩
    obtain ⟨_, _, ⟨e, h1⟩ | ⟨o, ho, e, h1⟩⟩ := hd b hb
    · obtain ⟨n, rfl⟩ : ∃ m, n = m + 1 := ⟨n - 1, by omega⟩
      have : i = 0 := by omega
      subst this
      simp (disch := omega) only [fx_s, bX8_open_7, e, ↓bnd_e, ↓ob_s, ob_s, su_1, su_2, sl_1, sl_2, ↓ck_n, ck_n, ck_Z0, ck_Z1, c_lt, c_le, c_eq, ng_1, m_ne, m_en, m_lt, m_le, m_gt, m_ge, n_add, n_mul, n_sub, n_sm, n_pm, n_0m, n_cl, Nat.reduceEqDiff, ↓reduceIte, nle_T, nle_F, nlt_T, nlt_F, neq_F, neq_T, if_true, if_false, true_and, and_true, Nat.mul_zero, Nat.zero_add, Nat.add_zero, Nat.reduceAdd, Nat.reduceMul, Nat.reduceSub, li_0, li_1, li_2, li_3, li_4, li_5, li_6, li_7, li_8, li_9, li_10, li_11, li_12, li_13, li_14, li_15, li_16, li_20, li_24, li_28, li_31, li_35, li_38, li_40, li_41, li_45, li_48, li_60, li_62, li_63, li_97, li_100, li_104, li_105, li_120, li_124, li_127, li_180, li_239, li_240, li_255, li_256, li_300, li_400, li_960, li_1000000]
    · have := ih o n (c + 1) (by omega) (by omega) (by omega) (by omega)
      have e2 : c + 1 + i = c + (i + 1) := by omega
      rw [e2] at this
      simp (disch := omega) only [fx_s, bX8_open_7, e, this, ↓bnd_e, ↓ob_s, ob_s, su_1, su_2, sl_1, sl_2, ↓ck_n, ck_n, ck_Z0, ck_Z1, c_lt, c_le, c_eq, ng_1, m_ne, m_en, m_lt, m_le, m_gt, m_ge, n_add, n_mul, n_sub, n_sm, n_pm, n_0m, n_cl, Nat.reduceEqDiff, ↓reduceIte, nle_T, nle_F, nlt_T, nlt_F, neq_F, neq_T, if_true, if_false, true_and, and_true, Nat.mul_zero, Nat.zero_add, Nat.add_zero, Nat.reduceAdd, Nat.reduceMul, Nat.reduceSub, li_0, li_1, li_2, li_3, li_4, li_5, li_6, li_7, li_8, li_9, li_10, li_11, li_12, li_13, li_14, li_15, li_16, li_20, li_24, li_28, li_31, li_35, li_38, li_40, li_41, li_45, li_48, li_60, li_62, li_63, li_97, li_100, li_104, li_105, li_120, li_124, li_127, li_180, li_239, li_240, li_255, li_256, li_300, li_400, li_960, li_1000000]
theorem x8_open_r {F T L B O : Nat} {τ : St} {e : Nat → Int32} (h : Inv F T L B O (τ.1 8 0) τ.1 e) : mX8_open τ = some (nI O) := by
  obtain ⟨⟨a1, a2, a3⟩, _, _, ⟨d, d1, d2⟩, _⟩ := h
  rcases d2 with ⟨d2, rfl⟩ | ⟨b, h1, h2, h3, h4⟩
  · unfold mX8_open; rw [d2]; rfl
  · have := x8_open (τ := τ) (by omega) d1 O b NF 0 h1 h3 (by show O < 1000; omega) (by omega)
    unfold mX8_open
    rw [h2]
    simp only [bnd_e, li_0]
    rw [Nat.zero_add] at this
    exact this
/-- whether a box, or no box, counts as open: the class, the other side -/
theorem x0_isOpen {σ : St} {e : Nat → Int32} {B b : Nat} (hB : B ≤ 60) (h9 : σ.1 9 0 = nI B) (h37 : σ.1 37 = e) (hb : b < B) :
    (e b = mI → mX0_isOpen σ (nI b) = some (nI 1)) ∧ (∀ j, j < 60 → e b = nI j → mX0_isOpen σ (nI b) = some (nI 0)) := by
  subst h37
  refine ⟨fun h => ?_, fun j hj h => ?_⟩
  · simp (disch := omega) only [mX0_isOpen, h9, h, ↓bnd_e, ↓ob_s, ob_s, su_1, su_2, sl_1, sl_2, ↓ck_n, ck_n, ck_Z0, ck_Z1, c_lt, c_le, c_eq, ng_1, m_ne, m_en, m_lt, m_le, m_gt, m_ge, n_add, n_mul, n_sub, n_sm, n_pm, n_0m, n_cl, Nat.reduceEqDiff, ↓reduceIte, nle_T, nle_F, nlt_T, nlt_F, neq_F, neq_T, if_true, if_false, true_and, and_true, Nat.mul_zero, Nat.zero_add, Nat.add_zero, Nat.reduceAdd, Nat.reduceMul, Nat.reduceSub, li_0, li_1, li_2, li_3, li_4, li_5, li_6, li_7, li_8, li_9, li_10, li_11, li_12, li_13, li_14, li_15, li_16, li_20, li_24, li_28, li_31, li_35, li_38, li_40, li_41, li_45, li_48, li_60, li_62, li_63, li_97, li_100, li_104, li_105, li_120, li_124, li_127, li_180, li_239, li_240, li_255, li_256, li_300, li_400, li_960, li_1000000]
  · simp (disch := omega) only [mX0_isOpen, h9, h, ↓bnd_e, ↓ob_s, ob_s, su_1, su_2, sl_1, sl_2, ↓ck_n, ck_n, ck_Z0, ck_Z1, c_lt, c_le, c_eq, ng_1, m_ne, m_en, m_lt, m_le, m_gt, m_ge, n_add, n_mul, n_sub, n_sm, n_pm, n_0m, n_cl, Nat.reduceEqDiff, ↓reduceIte, nle_T, nle_F, nlt_T, nlt_F, neq_F, neq_T, if_true, if_false, true_and, and_true, Nat.mul_zero, Nat.zero_add, Nat.add_zero, Nat.reduceAdd, Nat.reduceMul, Nat.reduceSub, li_0, li_1, li_2, li_3, li_4, li_5, li_6, li_7, li_8, li_9, li_10, li_11, li_12, li_13, li_14, li_15, li_16, li_20, li_24, li_28, li_31, li_35, li_38, li_40, li_41, li_45, li_48, li_60, li_62, li_63, li_97, li_100, li_104, li_105, li_120, li_124, li_127, li_180, li_239, li_240, li_255, li_256, li_300, li_400, li_960, li_1000000]
theorem x8_areOpen {τ : St} {B : Nat} {d : Nat → Nat} (hB : B ≤ 60) (hd : DP B τ.1 d) (hi : ∀ b, b < B → τ.1 26 b = mI → τ.1 27 b = mI ∨ ∃ o, o < b ∧ τ.1 27 b = nI o ∧ τ.1 26 o = mI) :
    ∀ i b n, b < B → d b = i → i < n → (τ.1 26 b = mI → mX8_areOpen_2 n τ (nI b) = some (nI 1)) ∧ (τ.1 26 b ≠ mI → mX8_areOpen_2 n τ (nI b) = some (nI 0)) := by
  intro i
  induction i with
  | zero => intro b n hb h; have := (hd b hb).1; omega
  | succ i ih =>
    intro b n hb h hn
    obtain ⟨n, rfl⟩ : ∃ m, n = m + 1 := ⟨n - 1, by omega⟩
    refine ⟨fun e => ?_, fun e => ?_⟩
    · obtain ⟨n, rfl⟩ : ∃ m, n = m + 1 := ⟨n - 1, by omega⟩
      rcases hi b hb e with h1 | ⟨o, ho, h1, h2⟩
      · simp (disch := omega) only [fx_s, bX8_areOpen_2, e, h1, ↓bnd_e, ↓ob_s, ob_s, su_1, su_2, sl_1, sl_2, ↓ck_n, ck_n, ck_Z0, ck_Z1, c_lt, c_le, c_eq, ng_1, m_ne, m_en, m_lt, m_le, m_gt, m_ge, n_add, n_mul, n_sub, n_sm, n_pm, n_0m, n_cl, Nat.reduceEqDiff, ↓reduceIte, nle_T, nle_F, nlt_T, nlt_F, neq_F, neq_T, if_true, if_false, true_and, and_true, Nat.mul_zero, Nat.zero_add, Nat.add_zero, Nat.reduceAdd, Nat.reduceMul, Nat.reduceSub, li_0, li_1, li_2, li_3, li_4, li_5, li_6, li_7, li_8, li_9, li_10, li_11, li_12, li_13, li_14, li_15, li_16, li_20, li_24, li_28, li_31, li_35, li_38, li_40, li_41, li_45, li_48, li_60, li_62, li_63, li_97, li_100, li_104, li_105, li_120, li_124, li_127, li_180, li_239, li_240, li_255, li_256, li_300, li_400, li_960, li_1000000]
      · have hdo : d o = i := by
          obtain ⟨_, _, ⟨e3, _⟩ | ⟨o', _, e3, e4⟩⟩ := hd b hb
          · rw [h1, m_ne (by omega)] at e3; exact e3.elim
          · rw [h1, c_eq (by omega) (by omega)] at e3; subst e3; omega
        have := (ih o (n + 1) (by omega) hdo (by omega)).1 h2
        show bX8_areOpen_2 (mX8_areOpen_2 (n + 1)) τ (nI b) = some (nI 1)
        simp (disch := omega) only [bX8_areOpen_2, e, h1, this, ↓bnd_e, ↓ob_s, ob_s, su_1, su_2, sl_1, sl_2, ↓ck_n, ck_n, ck_Z0, ck_Z1, c_lt, c_le, c_eq, ng_1, m_ne, m_en, m_lt, m_le, m_gt, m_ge, n_add, n_mul, n_sub, n_sm, n_pm, n_0m, n_cl, Nat.reduceEqDiff, ↓reduceIte, nle_T, nle_F, nlt_T, nlt_F, neq_F, neq_T, if_true, if_false, true_and, and_true, Nat.mul_zero, Nat.zero_add, Nat.add_zero, Nat.reduceAdd, Nat.reduceMul, Nat.reduceSub, li_0, li_1, li_2, li_3, li_4, li_5, li_6, li_7, li_8, li_9, li_10, li_11, li_12, li_13, li_14, li_15, li_16, li_20, li_24, li_28, li_31, li_35, li_38, li_40, li_41, li_45, li_48, li_60, li_62, li_63, li_97, li_100, li_104, li_105, li_120, li_124, li_127, li_180, li_239, li_240, li_255, li_256, li_300, li_400, li_960, li_1000000]
    · simp (disch := omega) only [fx_s, bX8_areOpen_2, e, ↓bnd_e, ↓ob_s, ob_s, su_1, su_2, sl_1, sl_2, ↓ck_n, ck_n, ck_Z0, ck_Z1, c_lt, c_le, c_eq, ng_1, m_ne, m_en, m_lt, m_le, m_gt, m_ge, n_add, n_mul, n_sub, n_sm, n_pm, n_0m, n_cl, Nat.reduceEqDiff, ↓reduceIte, nle_T, nle_F, nlt_T, nlt_F, neq_F, neq_T, if_true, if_false, true_and, and_true, Nat.mul_zero, Nat.zero_add, Nat.add_zero, Nat.reduceAdd, Nat.reduceMul, Nat.reduceSub, li_0, li_1, li_2, li_3, li_4, li_5, li_6, li_7, li_8, li_9, li_10, li_11, li_12, li_13, li_14, li_15, li_16, li_20, li_24, li_28, li_31, li_35, li_38, li_40, li_41, li_45, li_48, li_60, li_62, li_63, li_97, li_100, li_104, li_105, li_120, li_124, li_127, li_180, li_239, li_240, li_255, li_256, li_300, li_400, li_960, li_1000000]
