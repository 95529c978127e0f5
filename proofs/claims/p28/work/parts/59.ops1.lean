def bs (f : Nat → Bool) : Nat → Nat | 0 => 0 | n + 1 => bs f n + (if f n then 1 else 0)
theorem bs_le (f : Nat → Bool) : ∀ n, bs f n ≤ n := by
  intro n
  induction n with
  | zero => exact Nat.le_refl _
  | succ n ih => show bs f n + _ ≤ _; split <;> omega
theorem bs_c {f g : Nat → Bool} : ∀ n, (∀ k, k < n → f k = g k) → bs f n = bs g n := by
  intro n
  induction n with
  | zero => intro _; rfl
  | succ n ih => intro h; show bs f n + _ = bs g n + _; rw [ih (fun k hk => h k (by omega)), h n (by omega)]
theorem bs_add (f : Nat → Bool) (a : Nat) : ∀ b, bs f (a + b) = bs f a + bs (fun k => f (a + k)) b := by
  intro b
  induction b with
  | zero => rfl
  | succ b ih =>
    show bs f (a + b) + (if f (a + b) then 1 else 0) = bs f a + (bs (fun k => f (a + k)) b + (if f (a + b) then 1 else 0))
    rw [ih]; omega
theorem cb_s : ∀ n X, cb (n + 1) X = cb n X + X / 2 ^ n % 2 := by
  intro n
  induction n with
  | zero => intro X; show X % 2 + 0 = 0 + X / 1 % 2; rw [Nat.div_one]; omega
  | succ n ih =>
    intro X
    have e : cb (n + 1 + 1) X = X % 2 + cb (n + 1) (X / 2) := rfl
    have e2 : cb (n + 1) X = X % 2 + cb n (X / 2) := rfl
    rw [e, ih, e2, Nat.div_div_eq_div_mul, Nat.pow_succ, Nat.mul_comm 2]; omega
theorem cb_bs (X : Nat) : ∀ n, cb n X = bs (fun k => decide (X / 2 ^ k % 2 = 1)) n := by
  intro n
  induction n with
  | zero => rfl
  | succ n ih =>
    rw [cb_s, ih]
    show _ = bs _ n + _
    by_cases h : X / 2 ^ n % 2 = 1
    · simp [h]
    · have : X / 2 ^ n % 2 = 0 := by omega
      simp [this]
theorem words_bs {w0 w1 w2 w3 : Int64} {f : Nat → Bool} (h0 : ∀ k, k < 64 → btL w0 k = f k) (h1 : ∀ k, k < 64 → btL w1 k = f (64 + k)) (h2 : ∀ k, k < 64 → btL w2 k = f (128 + k)) (h3 : ∀ k, k < 64 → btL w3 k = f (192 + k)) :
    cb 64 (uX w0) + cb 64 (uX w1) + cb 64 (uX w2) + cb 64 (uX w3) = bs f 256 := by
  have e : bs f 256 = bs f 64 + bs (fun k => f (64 + k)) 64 + bs (fun k => f (128 + k)) 64 + bs (fun k => f (192 + k)) 64 := by
    rw [show (256 : Nat) = 192 + 64 from rfl, bs_add, show (192 : Nat) = 128 + 64 from rfl, bs_add, show (128 : Nat) = 64 + 64 from rfl, bs_add]
  have c : ∀ (w : Int64) (g : Nat → Bool), (∀ k, k < 64 → btL w k = g k) → cb 64 (uX w) = bs g 64 := fun w g hg => by
    rw [cb_bs]
    exact bs_c 64 (fun k hk => by rw [← btL_t]; exact hg k hk)
  rw [e, c w0 _ h0, c w1 (fun k => f (64 + k)) h1, c w2 (fun k => f (128 + k)) h2, c w3 (fun k => f (192 + k)) h3]
theorem x1_trueSets {F j : Nat} {σ τ : St} (h : RF F σ τ) (hj : j < F) : mX1_trueSets σ (nI j) = some (nI (bs (fun q => btL (σ.2 (4 * j + q / 64)) (q % 64)) 256)) := by
  have h0 := h.1.2.1
  have hF := h.le
  have e : ∀ w, w < 4 → ∀ k, k < 64 → btL (σ.2 (4 * j + w)) k = (fun q => btL (σ.2 (4 * j + q / 64)) (q % 64)) (64 * w + k) := fun w hw k hk => by
    have a : (64 * w + k) / 64 = w := by omega
    have b : (64 * w + k) % 64 = k := by omega
    show _ = btL (σ.2 (4 * j + (64 * w + k) / 64)) ((64 * w + k) % 64)
    rw [a, b]
  rw [← words_bs (f := fun q => btL (σ.2 (4 * j + q / 64)) (q % 64)) (fun k hk => (e 0 (by omega) k hk).trans (by rw [Nat.mul_zero, Nat.zero_add])) (e 1 (by omega)) (e 2 (by omega)) (e 3 (by omega))]
  have step : ∀ w n acc, w < 4 → acc < 1000 → mX1_trueSets_4 (n + 1) σ (nI j) (nI acc) (nI w) = mX1_trueSets_4 n σ (nI j) (nI (acc + cb 64 (uX (σ.2 (4 * j + w))))) (nI (w + 1)) := by
    intro w n acc hw ha
    have t := gn_truth h0 hF hj hw
    simp (disch := omega) only [fx_s, bX1_trueSets_4, bitCount, t, ↓bnd_e, ↓ob_s, ob_s, su_1, su_2, sl_1, sl_2, ↓ck_n, ck_n, ck_Z0, ck_Z1, c_lt, c_le, c_eq, ng_1, m_ne, m_en, m_lt, m_le, m_gt, m_ge, n_add, n_mul, n_sub, n_sm, n_pm, n_0m, n_cl, Nat.reduceEqDiff, ↓reduceIte, nle_T, nle_F, nlt_T, nlt_F, neq_F, neq_T, if_true, if_false, true_and, and_true, Nat.mul_zero, Nat.zero_add, Nat.add_zero, Nat.reduceAdd, Nat.reduceMul, Nat.reduceSub, li_0, li_1, li_2, li_3, li_4, li_5, li_6, li_7, li_8, li_9, li_10, li_11, li_12, li_13, li_14, li_15, li_16, li_20, li_24, li_28, li_31, li_35, li_38, li_40, li_41, li_45, li_48, li_60, li_62, li_63, li_97, li_100, li_104, li_105, li_120, li_124, li_127, li_180, li_239, li_240, li_255, li_256, li_300, li_400, li_960, li_1000000]
  have le64 : ∀ X, cb 64 X ≤ 64 := fun X => by rw [cb_bs]; exact bs_le _ _
  have l0 := le64 (uX (σ.2 (4 * j)))
  have l1 := le64 (uX (σ.2 (4 * j + 1)))
  have l2 := le64 (uX (σ.2 (4 * j + 2)))
  have l3 := le64 (uX (σ.2 (4 * j + 3)))
  obtain ⟨nf, hnf⟩ := NF_5
  unfold mX1_trueSets
  rw [hnf]
  refine (step 0 _ 0 (by omega) (by omega)).trans ?_
  refine (step 1 _ _ (by omega) (by rw [Nat.add_zero]; omega)).trans ?_
  refine (step 2 _ _ (by omega) (by rw [Nat.add_zero]; omega)).trans ?_
  refine (step 3 _ _ (by omega) (by rw [Nat.add_zero]; omega)).trans ?_
  rw [Nat.add_zero, Nat.zero_add]
  simp (disch := omega) only [fx_s, bX1_trueSets_4, ↓bnd_e, ↓ob_s, ob_s, su_1, su_2, sl_1, sl_2, ↓ck_n, ck_n, ck_Z0, ck_Z1, c_lt, c_le, c_eq, ng_1, m_ne, m_en, m_lt, m_le, m_gt, m_ge, n_add, n_mul, n_sub, n_sm, n_pm, n_0m, n_cl, Nat.reduceEqDiff, ↓reduceIte, nle_T, nle_F, nlt_T, nlt_F, neq_F, neq_T, if_true, if_false, true_and, and_true, Nat.mul_zero, Nat.zero_add, Nat.add_zero, Nat.reduceAdd, Nat.reduceMul, Nat.reduceSub, li_0, li_1, li_2, li_3, li_4, li_5, li_6, li_7, li_8, li_9, li_10, li_11, li_12, li_13, li_14, li_15, li_16, li_20, li_24, li_28, li_31, li_35, li_38, li_40, li_41, li_45, li_48, li_60, li_62, li_63, li_97, li_100, li_104, li_105, li_120, li_124, li_127, li_180, li_239, li_240, li_255, li_256, li_300, li_400, li_960, li_1000000]
theorem x8_trueFor {F j : Nat} {σ τ : St} (h : RF F σ τ) (hj : j < F) : ∀ d q n, q + d = 256 → d < n →
    mX8_trueFor_4 n τ (nI j) (nI (bs (fun q => btL (σ.2 (4 * j + q / 64)) (q % 64)) q)) (nI q) = some (nI (bs (fun q => btL (σ.2 (4 * j + q / 64)) (q % 64)) 256)) := by
  have hF := h.le
  intro d
  induction d with
  | zero =>
    intro q n hq hn
    obtain ⟨n, rfl⟩ : ∃ m, n = m + 1 := ⟨n - 1, by omega⟩
    have : q = 256 := by omega
    subst this
    simp (disch := omega) only [fx_s, bX8_trueFor_4, ↓bnd_e, ↓ob_s, ob_s, su_1, su_2, sl_1, sl_2, ↓ck_n, ck_n, ck_Z0, ck_Z1, c_lt, c_le, c_eq, ng_1, m_ne, m_en, m_lt, m_le, m_gt, m_ge, n_add, n_mul, n_sub, n_sm, n_pm, n_0m, n_cl, Nat.reduceEqDiff, ↓reduceIte, nle_T, nle_F, nlt_T, nlt_F, neq_F, neq_T, if_true, if_false, true_and, and_true, Nat.mul_zero, Nat.zero_add, Nat.add_zero, Nat.reduceAdd, Nat.reduceMul, Nat.reduceSub, li_0, li_1, li_2, li_3, li_4, li_5, li_6, li_7, li_8, li_9, li_10, li_11, li_12, li_13, li_14, li_15, li_16, li_20, li_24, li_28, li_31, li_35, li_38, li_40, li_41, li_45, li_48, li_60, li_62, li_63, li_97, li_100, li_104, li_105, li_120, li_124, li_127, li_180, li_239, li_240, li_255, li_256, li_300, li_400, li_960, li_1000000]
  | succ d ih =>
    intro q n hq hn
    obtain ⟨n, rfl⟩ : ∃ m, n = m + 1 := ⟨n - 1, by omega⟩
    have := ih (q + 1) n (by omega) (by omega)
    have e := x8_it (t := τ) (p := j) (k := q) (by omega) (by omega) (h.tr j hj q (by omega))
    rw [← this]
    have e2 : bs (fun q => btL (σ.2 (4 * j + q / 64)) (q % 64)) (q + 1) = bs (fun q => btL (σ.2 (4 * j + q / 64)) (q % 64)) q + (if btL (σ.2 (4 * j + q / 64)) (q % 64) then 1 else 0) := rfl
    rw [e2]
    cases hb : btL (σ.2 (4 * j + q / 64)) (q % 64)
    · rw [hb] at e
      simp (disch := omega) only [fx_s, bX8_trueFor_4, mX8_trueFor_26, e, zB_0, Bool.false_eq_true, ↓bnd_e, ↓ob_s, ob_s, su_1, su_2, sl_1, sl_2, ↓ck_n, ck_n, ck_Z0, ck_Z1, c_lt, c_le, c_eq, ng_1, m_ne, m_en, m_lt, m_le, m_gt, m_ge, n_add, n_mul, n_sub, n_sm, n_pm, n_0m, n_cl, Nat.reduceEqDiff, ↓reduceIte, nle_T, nle_F, nlt_T, nlt_F, neq_F, neq_T, if_true, if_false, true_and, and_true, Nat.mul_zero, Nat.zero_add, Nat.add_zero, Nat.reduceAdd, Nat.reduceMul, Nat.reduceSub, li_0, li_1, li_2, li_3, li_4, li_5, li_6, li_7, li_8, li_9, li_10, li_11, li_12, li_13, li_14, li_15, li_16, li_20, li_24, li_28, li_31, li_35, li_38, li_40, li_41, li_45, li_48, li_60, li_62, li_63, li_97, li_100, li_104, li_105, li_120, li_124, li_127, li_180, li_239, li_240, li_255, li_256, li_300, li_400, li_960, li_1000000]
    · rw [hb] at e
      simp (disch := omega) only [fx_s, bX8_trueFor_4, mX8_trueFor_26, e, zB_1, ↓bnd_e, ↓ob_s, ob_s, su_1, su_2, sl_1, sl_2, ↓ck_n, ck_n, ck_Z0, ck_Z1, c_lt, c_le, c_eq, ng_1, m_ne, m_en, m_lt, m_le, m_gt, m_ge, n_add, n_mul, n_sub, n_sm, n_pm, n_0m, n_cl, Nat.reduceEqDiff, ↓reduceIte, nle_T, nle_F, nlt_T, nlt_F, neq_F, neq_T, if_true, if_false, true_and, and_true, Nat.mul_zero, Nat.zero_add, Nat.add_zero, Nat.reduceAdd, Nat.reduceMul, Nat.reduceSub, li_0, li_1, li_2, li_3, li_4, li_5, li_6, li_7, li_8, li_9, li_10, li_11, li_12, li_13, li_14, li_15, li_16, li_20, li_24, li_28, li_31, li_35, li_38, li_40, li_41, li_45, li_48, li_60, li_62, li_63, li_97, li_100, li_104, li_105, li_120, li_124, li_127, li_180, li_239, li_240, li_255, li_256, li_300, li_400, li_960, li_1000000]
theorem P_formula {σ τ : St} (h : RR σ τ) (p1 p2 : Int32) : (∃ (r : Int32) (τ' : St), mX7_formula σ p1 p2 = some r ∧ mX8_formula τ p1 p2 = some (r, τ') ∧ τ'.1 0 0 = 0 ∧ RR σ τ') ∨ (∃ (v : Int32) (τ' : St), tX7_formula σ p1 p2 = some 3 ∧ mX8_formula τ p1 p2 = some (v, τ') ∧ τ'.1 0 0 = 1 ∧ RR σ τ') := by
  have hR := RR_thr h
  have hR2 := fun v w => RR_thr (RR_thr h v) w
  obtain ⟨F, T, hf, _⟩ := h
  have hF := hf.le
  have h0 := hf.1.2.1
  have h5 := hf.1.2.2
  rcases kn_rel hf p1 with ⟨j, hj, rfl, k1, k8⟩ | ⟨k1, k8⟩
  · have k8' := k8 (su τ 0 (fun _ => nI 0)) h5
    rcases x8_in p2 5 (by omega) with ⟨w, hw, rfl, h1⟩ | ⟨h1, hx, h2⟩
    · have e := (hf.2.1 j hj).1
      have hw6 : w = 0 ∨ w = 1 ∨ w = 2 ∨ w = 3 ∨ w = 4 ∨ w = 5 := by omega
      rcases hw6 with rfl | rfl | rfl | rfl | rfl | rfl
      · refine Or.inl ⟨σ.1 12 j, su τ 0 (fun _ => nI 0), ?_, ?_, rfl, hR _⟩
        · simp (disch := omega) only [mX7_formula, k1, x1_sort h0 hF hj, ↓bnd_e, ↓ob_s, ob_s, su_1, su_2, sl_1, sl_2, ↓ck_n, ck_n, ck_Z0, ck_Z1, c_lt, c_le, c_eq, ng_1, m_ne, m_en, m_lt, m_le, m_gt, m_ge, n_add, n_mul, n_sub, n_sm, n_pm, n_0m, n_cl, Nat.reduceEqDiff, ↓reduceIte, nle_T, nle_F, nlt_T, nlt_F, neq_F, neq_T, if_true, if_false, true_and, and_true, Nat.mul_zero, Nat.zero_add, Nat.add_zero, Nat.reduceAdd, Nat.reduceMul, Nat.reduceSub, li_0, li_1, li_2, li_3, li_4, li_5, li_6, li_7, li_8, li_9, li_10, li_11, li_12, li_13, li_14, li_15, li_16, li_20, li_24, li_28, li_31, li_35, li_38, li_40, li_41, li_45, li_48, li_60, li_62, li_63, li_97, li_100, li_104, li_105, li_120, li_124, li_127, li_180, li_239, li_240, li_255, li_256, li_300, li_400, li_960, li_1000000]
        · simp (disch := omega) only [mX8_formula, mX8_formulaTold, k8', h1, e.1, ↓bnd_e, ↓ob_s, ob_s, su_1, su_2, sl_1, sl_2, ↓ck_n, ck_n, ck_Z0, ck_Z1, c_lt, c_le, c_eq, ng_1, m_ne, m_en, m_lt, m_le, m_gt, m_ge, n_add, n_mul, n_sub, n_sm, n_pm, n_0m, n_cl, Nat.reduceEqDiff, ↓reduceIte, nle_T, nle_F, nlt_T, nlt_F, neq_F, neq_T, if_true, if_false, true_and, and_true, Nat.mul_zero, Nat.zero_add, Nat.add_zero, Nat.reduceAdd, Nat.reduceMul, Nat.reduceSub, li_0, li_1, li_2, li_3, li_4, li_5, li_6, li_7, li_8, li_9, li_10, li_11, li_12, li_13, li_14, li_15, li_16, li_20, li_24, li_28, li_31, li_35, li_38, li_40, li_41, li_45, li_48, li_60, li_62, li_63, li_97, li_100, li_104, li_105, li_120, li_124, li_127, li_180, li_239, li_240, li_255, li_256, li_300, li_400, li_960, li_1000000]
      · refine Or.inl ⟨σ.1 13 j, su τ 0 (fun _ => nI 0), ?_, ?_, rfl, hR _⟩
        · simp (disch := omega) only [mX7_formula, k1, gn_first h0 hF hj, ↓bnd_e, ↓ob_s, ob_s, su_1, su_2, sl_1, sl_2, ↓ck_n, ck_n, ck_Z0, ck_Z1, c_lt, c_le, c_eq, ng_1, m_ne, m_en, m_lt, m_le, m_gt, m_ge, n_add, n_mul, n_sub, n_sm, n_pm, n_0m, n_cl, Nat.reduceEqDiff, ↓reduceIte, nle_T, nle_F, nlt_T, nlt_F, neq_F, neq_T, if_true, if_false, true_and, and_true, Nat.mul_zero, Nat.zero_add, Nat.add_zero, Nat.reduceAdd, Nat.reduceMul, Nat.reduceSub, li_0, li_1, li_2, li_3, li_4, li_5, li_6, li_7, li_8, li_9, li_10, li_11, li_12, li_13, li_14, li_15, li_16, li_20, li_24, li_28, li_31, li_35, li_38, li_40, li_41, li_45, li_48, li_60, li_62, li_63, li_97, li_100, li_104, li_105, li_120, li_124, li_127, li_180, li_239, li_240, li_255, li_256, li_300, li_400, li_960, li_1000000]
        · simp (disch := omega) only [mX8_formula, mX8_formulaTold, k8', h1, e.2.1, ↓bnd_e, ↓ob_s, ob_s, su_1, su_2, sl_1, sl_2, ↓ck_n, ck_n, ck_Z0, ck_Z1, c_lt, c_le, c_eq, ng_1, m_ne, m_en, m_lt, m_le, m_gt, m_ge, n_add, n_mul, n_sub, n_sm, n_pm, n_0m, n_cl, Nat.reduceEqDiff, ↓reduceIte, nle_T, nle_F, nlt_T, nlt_F, neq_F, neq_T, if_true, if_false, true_and, and_true, Nat.mul_zero, Nat.zero_add, Nat.add_zero, Nat.reduceAdd, Nat.reduceMul, Nat.reduceSub, li_0, li_1, li_2, li_3, li_4, li_5, li_6, li_7, li_8, li_9, li_10, li_11, li_12, li_13, li_14, li_15, li_16, li_20, li_24, li_28, li_31, li_35, li_38, li_40, li_41, li_45, li_48, li_60, li_62, li_63, li_97, li_100, li_104, li_105, li_120, li_124, li_127, li_180, li_239, li_240, li_255, li_256, li_300, li_400, li_960, li_1000000]
      · refine Or.inl ⟨σ.1 14 j, su τ 0 (fun _ => nI 0), ?_, ?_, rfl, hR _⟩
        · simp (disch := omega) only [mX7_formula, k1, gn_second h0 hF hj, ↓bnd_e, ↓ob_s, ob_s, su_1, su_2, sl_1, sl_2, ↓ck_n, ck_n, ck_Z0, ck_Z1, c_lt, c_le, c_eq, ng_1, m_ne, m_en, m_lt, m_le, m_gt, m_ge, n_add, n_mul, n_sub, n_sm, n_pm, n_0m, n_cl, Nat.reduceEqDiff, ↓reduceIte, nle_T, nle_F, nlt_T, nlt_F, neq_F, neq_T, if_true, if_false, true_and, and_true, Nat.mul_zero, Nat.zero_add, Nat.add_zero, Nat.reduceAdd, Nat.reduceMul, Nat.reduceSub, li_0, li_1, li_2, li_3, li_4, li_5, li_6, li_7, li_8, li_9, li_10, li_11, li_12, li_13, li_14, li_15, li_16, li_20, li_24, li_28, li_31, li_35, li_38, li_40, li_41, li_45, li_48, li_60, li_62, li_63, li_97, li_100, li_104, li_105, li_120, li_124, li_127, li_180, li_239, li_240, li_255, li_256, li_300, li_400, li_960, li_1000000]
        · simp (disch := omega) only [mX8_formula, mX8_formulaTold, k8', h1, e.2.2.1, ↓bnd_e, ↓ob_s, ob_s, su_1, su_2, sl_1, sl_2, ↓ck_n, ck_n, ck_Z0, ck_Z1, c_lt, c_le, c_eq, ng_1, m_ne, m_en, m_lt, m_le, m_gt, m_ge, n_add, n_mul, n_sub, n_sm, n_pm, n_0m, n_cl, Nat.reduceEqDiff, ↓reduceIte, nle_T, nle_F, nlt_T, nlt_F, neq_F, neq_T, if_true, if_false, true_and, and_true, Nat.mul_zero, Nat.zero_add, Nat.add_zero, Nat.reduceAdd, Nat.reduceMul, Nat.reduceSub, li_0, li_1, li_2, li_3, li_4, li_5, li_6, li_7, li_8, li_9, li_10, li_11, li_12, li_13, li_14, li_15, li_16, li_20, li_24, li_28, li_31, li_35, li_38, li_40, li_41, li_45, li_48, li_60, li_62, li_63, li_97, li_100, li_104, li_105, li_120, li_124, li_127, li_180, li_239, li_240, li_255, li_256, li_300, li_400, li_960, li_1000000]
      · refine Or.inl ⟨σ.1 15 j, su τ 0 (fun _ => nI 0), ?_, ?_, rfl, hR _⟩
        · simp (disch := omega) only [mX7_formula, k1, gn_letters h0 hF hj, ↓bnd_e, ↓ob_s, ob_s, su_1, su_2, sl_1, sl_2, ↓ck_n, ck_n, ck_Z0, ck_Z1, c_lt, c_le, c_eq, ng_1, m_ne, m_en, m_lt, m_le, m_gt, m_ge, n_add, n_mul, n_sub, n_sm, n_pm, n_0m, n_cl, Nat.reduceEqDiff, ↓reduceIte, nle_T, nle_F, nlt_T, nlt_F, neq_F, neq_T, if_true, if_false, true_and, and_true, Nat.mul_zero, Nat.zero_add, Nat.add_zero, Nat.reduceAdd, Nat.reduceMul, Nat.reduceSub, li_0, li_1, li_2, li_3, li_4, li_5, li_6, li_7, li_8, li_9, li_10, li_11, li_12, li_13, li_14, li_15, li_16, li_20, li_24, li_28, li_31, li_35, li_38, li_40, li_41, li_45, li_48, li_60, li_62, li_63, li_97, li_100, li_104, li_105, li_120, li_124, li_127, li_180, li_239, li_240, li_255, li_256, li_300, li_400, li_960, li_1000000]
        · simp (disch := omega) only [mX8_formula, mX8_formulaTold, k8', h1, e.2.2.2.1, ↓bnd_e, ↓ob_s, ob_s, su_1, su_2, sl_1, sl_2, ↓ck_n, ck_n, ck_Z0, ck_Z1, c_lt, c_le, c_eq, ng_1, m_ne, m_en, m_lt, m_le, m_gt, m_ge, n_add, n_mul, n_sub, n_sm, n_pm, n_0m, n_cl, Nat.reduceEqDiff, ↓reduceIte, nle_T, nle_F, nlt_T, nlt_F, neq_F, neq_T, if_true, if_false, true_and, and_true, Nat.mul_zero, Nat.zero_add, Nat.add_zero, Nat.reduceAdd, Nat.reduceMul, Nat.reduceSub, li_0, li_1, li_2, li_3, li_4, li_5, li_6, li_7, li_8, li_9, li_10, li_11, li_12, li_13, li_14, li_15, li_16, li_20, li_24, li_28, li_31, li_35, li_38, li_40, li_41, li_45, li_48, li_60, li_62, li_63, li_97, li_100, li_104, li_105, li_120, li_124, li_127, li_180, li_239, li_240, li_255, li_256, li_300, li_400, li_960, li_1000000]
      · refine Or.inl ⟨nI (bs (fun q => btL (σ.2 (4 * j + q / 64)) (q % 64)) 256), su τ 0 (fun _ => nI 0), ?_, ?_, rfl, hR _⟩
        · simp (disch := omega) only [mX7_formula, k1, x1_trueSets hf hj, ↓bnd_e, ↓ob_s, ob_s, su_1, su_2, sl_1, sl_2, ↓ck_n, ck_n, ck_Z0, ck_Z1, c_lt, c_le, c_eq, ng_1, m_ne, m_en, m_lt, m_le, m_gt, m_ge, n_add, n_mul, n_sub, n_sm, n_pm, n_0m, n_cl, Nat.reduceEqDiff, ↓reduceIte, nle_T, nle_F, nlt_T, nlt_F, neq_F, neq_T, if_true, if_false, true_and, and_true, Nat.mul_zero, Nat.zero_add, Nat.add_zero, Nat.reduceAdd, Nat.reduceMul, Nat.reduceSub, li_0, li_1, li_2, li_3, li_4, li_5, li_6, li_7, li_8, li_9, li_10, li_11, li_12, li_13, li_14, li_15, li_16, li_20, li_24, li_28, li_31, li_35, li_38, li_40, li_41, li_45, li_48, li_60, li_62, li_63, li_97, li_100, li_104, li_105, li_120, li_124, li_127, li_180, li_239, li_240, li_255, li_256, li_300, li_400, li_960, li_1000000]
        · have hf' : RF F σ (su τ 0 (fun _ => nI 0)) := hf.c (fun _ _ => rfl) rfl (.k (KE.rf.s (l := [0]) (by decide)) (by decide))
          have q := x8_trueFor hf' hj 256 0 NF (by omega) (by decide)
          have q2 : mX8_trueFor (su τ 0 (fun _ => nI 0)) (nI j) = some (nI (bs (fun q => btL (σ.2 (4 * j + q / 64)) (q % 64)) 256)) := q
          simp (disch := omega) only [mX8_formula, mX8_formulaTold, k8', h1, q2, ↓bnd_e, ↓ob_s, ob_s, su_1, su_2, sl_1, sl_2, ↓ck_n, ck_n, ck_Z0, ck_Z1, c_lt, c_le, c_eq, ng_1, m_ne, m_en, m_lt, m_le, m_gt, m_ge, n_add, n_mul, n_sub, n_sm, n_pm, n_0m, n_cl, Nat.reduceEqDiff, ↓reduceIte, nle_T, nle_F, nlt_T, nlt_F, neq_F, neq_T, if_true, if_false, true_and, and_true, Nat.mul_zero, Nat.zero_add, Nat.add_zero, Nat.reduceAdd, Nat.reduceMul, Nat.reduceSub, li_0, li_1, li_2, li_3, li_4, li_5, li_6, li_7, li_8, li_9, li_10, li_11, li_12, li_13, li_14, li_15, li_16, li_20, li_24, li_28, li_31, li_35, li_38, li_40, li_41, li_45, li_48, li_60, li_62, li_63, li_97, li_100, li_104, li_105, li_120, li_124, li_127, li_180, li_239, li_240, li_255, li_256, li_300, li_400, li_960, li_1000000]
      · refine Or.inl ⟨σ.1 16 j, su τ 0 (fun _ => nI 0), ?_, ?_, rfl, hR _⟩
        · simp (disch := omega) only [mX7_formula, k1, gn_size h0 hF hj, ↓bnd_e, ↓ob_s, ob_s, su_1, su_2, sl_1, sl_2, ↓ck_n, ck_n, ck_Z0, ck_Z1, c_lt, c_le, c_eq, ng_1, m_ne, m_en, m_lt, m_le, m_gt, m_ge, n_add, n_mul, n_sub, n_sm, n_pm, n_0m, n_cl, Nat.reduceEqDiff, ↓reduceIte, nle_T, nle_F, nlt_T, nlt_F, neq_F, neq_T, if_true, if_false, true_and, and_true, Nat.mul_zero, Nat.zero_add, Nat.add_zero, Nat.reduceAdd, Nat.reduceMul, Nat.reduceSub, li_0, li_1, li_2, li_3, li_4, li_5, li_6, li_7, li_8, li_9, li_10, li_11, li_12, li_13, li_14, li_15, li_16, li_20, li_24, li_28, li_31, li_35, li_38, li_40, li_41, li_45, li_48, li_60, li_62, li_63, li_97, li_100, li_104, li_105, li_120, li_124, li_127, li_180, li_239, li_240, li_255, li_256, li_300, li_400, li_960, li_1000000]
        · simp (disch := omega) only [mX8_formula, mX8_formulaTold, k8', h1, e.2.2.2.2, ↓bnd_e, ↓ob_s, ob_s, su_1, su_2, sl_1, sl_2, ↓ck_n, ck_n, ck_Z0, ck_Z1, c_lt, c_le, c_eq, ng_1, m_ne, m_en, m_lt, m_le, m_gt, m_ge, n_add, n_mul, n_sub, n_sm, n_pm, n_0m, n_cl, Nat.reduceEqDiff, ↓reduceIte, nle_T, nle_F, nlt_T, nlt_F, neq_F, neq_T, if_true, if_false, true_and, and_true, Nat.mul_zero, Nat.zero_add, Nat.add_zero, Nat.reduceAdd, Nat.reduceMul, Nat.reduceSub, li_0, li_1, li_2, li_3, li_4, li_5, li_6, li_7, li_8, li_9, li_10, li_11, li_12, li_13, li_14, li_15, li_16, li_20, li_24, li_28, li_31, li_35, li_38, li_40, li_41, li_45, li_48, li_60, li_62, li_63, li_97, li_100, li_104, li_105, li_120, li_124, li_127, li_180, li_239, li_240, li_255, li_256, li_300, li_400, li_960, li_1000000]
    · refine Or.inr ⟨nI 0, su (su τ 0 (fun _ => nI 0)) 0 (fun _ => nI 1), ?_, ?_, rfl, hR2 _ _⟩
      · rcases ix3 p2 6 (by omega) with ⟨h, h'⟩ | ⟨h, h', _, h2, _⟩ | ⟨j, hj, rfl⟩
        · simp (disch := omega) only [tX7_formula, k1, h, ↓bnd_e, ↓ob_s, ob_s, su_1, su_2, sl_1, sl_2, ↓ck_n, ck_n, ck_Z0, ck_Z1, c_lt, c_le, c_eq, ng_1, m_ne, m_en, m_lt, m_le, m_gt, m_ge, n_add, n_mul, n_sub, n_sm, n_pm, n_0m, n_cl, Nat.reduceEqDiff, ↓reduceIte, nle_T, nle_F, nlt_T, nlt_F, neq_F, neq_T, if_true, if_false, true_and, and_true, Nat.mul_zero, Nat.zero_add, Nat.add_zero, Nat.reduceAdd, Nat.reduceMul, Nat.reduceSub, li_0, li_1, li_2, li_3, li_4, li_5, li_6, li_7, li_8, li_9, li_10, li_11, li_12, li_13, li_14, li_15, li_16, li_20, li_24, li_28, li_31, li_35, li_38, li_40, li_41, li_45, li_48, li_60, li_62, li_63, li_97, li_100, li_104, li_105, li_120, li_124, li_127, li_180, li_239, li_240, li_255, li_256, li_300, li_400, li_960, li_1000000]
        · have := (h2 5 (by omega)).2.1
          simp (disch := omega) only [tX7_formula, k1, h, this, ↓bnd_e, ↓ob_s, ob_s, su_1, su_2, sl_1, sl_2, ↓ck_n, ck_n, ck_Z0, ck_Z1, c_lt, c_le, c_eq, ng_1, m_ne, m_en, m_lt, m_le, m_gt, m_ge, n_add, n_mul, n_sub, n_sm, n_pm, n_0m, n_cl, Nat.reduceEqDiff, ↓reduceIte, nle_T, nle_F, nlt_T, nlt_F, neq_F, neq_T, if_true, if_false, true_and, and_true, Nat.mul_zero, Nat.zero_add, Nat.add_zero, Nat.reduceAdd, Nat.reduceMul, Nat.reduceSub, li_0, li_1, li_2, li_3, li_4, li_5, li_6, li_7, li_8, li_9, li_10, li_11, li_12, li_13, li_14, li_15, li_16, li_20, li_24, li_28, li_31, li_35, li_38, li_40, li_41, li_45, li_48, li_60, li_62, li_63, li_97, li_100, li_104, li_105, li_120, li_124, li_127, li_180, li_239, li_240, li_255, li_256, li_300, li_400, li_960, li_1000000]
        · exact (hx ⟨j, by omega, rfl⟩).elim
      · simp (disch := omega) only [mX8_formula, mX8_formula_31, mX8_no, k8', h2, ↓bnd_e, ↓ob_s, ob_s, su_1, su_2, sl_1, sl_2, ↓ck_n, ck_n, ck_Z0, ck_Z1, c_lt, c_le, c_eq, ng_1, m_ne, m_en, m_lt, m_le, m_gt, m_ge, n_add, n_mul, n_sub, n_sm, n_pm, n_0m, n_cl, Nat.reduceEqDiff, ↓reduceIte, nle_T, nle_F, nlt_T, nlt_F, neq_F, neq_T, if_true, if_false, true_and, and_true, Nat.mul_zero, Nat.zero_add, Nat.add_zero, Nat.reduceAdd, Nat.reduceMul, Nat.reduceSub, li_0, li_1, li_2, li_3, li_4, li_5, li_6, li_7, li_8, li_9, li_10, li_11, li_12, li_13, li_14, li_15, li_16, li_20, li_24, li_28, li_31, li_35, li_38, li_40, li_41, li_45, li_48, li_60, li_62, li_63, li_97, li_100, li_104, li_105, li_120, li_124, li_127, li_180, li_239, li_240, li_255, li_256, li_300, li_400, li_960, li_1000000]
  · have k8' := k8 (su τ 0 (fun _ => nI 0)) h5
    refine Or.inr ⟨nI 0, su (su τ 0 (fun _ => nI 0)) 0 (fun _ => nI 1), ?_, ?_, rfl, hR2 _ _⟩
    · simp (disch := omega) only [tX7_formula, k1, ↓bnd_e, ↓ob_s, ob_s, su_1, su_2, sl_1, sl_2, ↓ck_n, ck_n, ck_Z0, ck_Z1, c_lt, c_le, c_eq, ng_1, m_ne, m_en, m_lt, m_le, m_gt, m_ge, n_add, n_mul, n_sub, n_sm, n_pm, n_0m, n_cl, Nat.reduceEqDiff, ↓reduceIte, nle_T, nle_F, nlt_T, nlt_F, neq_F, neq_T, if_true, if_false, true_and, and_true, Nat.mul_zero, Nat.zero_add, Nat.add_zero, Nat.reduceAdd, Nat.reduceMul, Nat.reduceSub, li_0, li_1, li_2, li_3, li_4, li_5, li_6, li_7, li_8, li_9, li_10, li_11, li_12, li_13, li_14, li_15, li_16, li_20, li_24, li_28, li_31, li_35, li_38, li_40, li_41, li_45, li_48, li_60, li_62, li_63, li_97, li_100, li_104, li_105, li_120, li_124, li_127, li_180, li_239, li_240, li_255, li_256, li_300, li_400, li_960, li_1000000]
    · simp (disch := omega) only [mX8_formula, mX8_formula_31, mX8_no, k8', ↓bnd_e, ↓ob_s, ob_s, su_1, su_2, sl_1, sl_2, ↓ck_n, ck_n, ck_Z0, ck_Z1, c_lt, c_le, c_eq, ng_1, m_ne, m_en, m_lt, m_le, m_gt, m_ge, n_add, n_mul, n_sub, n_sm, n_pm, n_0m, n_cl, Nat.reduceEqDiff, ↓reduceIte, nle_T, nle_F, nlt_T, nlt_F, neq_F, neq_T, if_true, if_false, true_and, and_true, Nat.mul_zero, Nat.zero_add, Nat.add_zero, Nat.reduceAdd, Nat.reduceMul, Nat.reduceSub, li_0, li_1, li_2, li_3, li_4, li_5, li_6, li_7, li_8, li_9, li_10, li_11, li_12, li_13, li_14, li_15, li_16, li_20, li_24, li_28, li_31, li_35, li_38, li_40, li_41, li_45, li_48, li_60, li_62, li_63, li_97, li_100, li_104, li_105, li_120, li_124, li_127, li_180, li_239, li_240, li_255, li_256, li_300, li_400, li_960, li_1000000]
theorem uX_inj {x y : Int64} (h : uX x = uX y) : x = y := congrArg UInt64.toInt64 (UInt64.toNat_inj.mp h)
theorem bit_of (x : Int64) {k : Nat} (hk : k < 64) : ((x.toUInt64 >>> ((nI k).toInt64.toUInt64 &&& Int64.toUInt64 63)).toInt64) &&& 1 = if btL x k then 1 else 0 := by
  have sh : ∀ k : Nat, k < 64 → (((nI k).toInt64.toUInt64 &&& Int64.toUInt64 63).toNat % 64 = k) := by decide +kernel
  apply uX_inj
  have u1 : uX (1 : Int64) = 2 ^ 1 - 1 := by decide
  rw [uX_and, uX_shr, sh k hk, u1, Nat.and_two_pow_sub_one_eq_mod, btL_t]
  by_cases h : uX x / 2 ^ k % 2 = 1
  · simp [h]; decide
  · have h' : uX x / 2 ^ k % 2 = 0 := by omega
    simp [h']; decide
theorem P_isTrue {σ τ : St} (h : RR σ τ) (p1 p2 : Int32) : (∃ (r : Int32) (τ' : St), mX7_isTrue σ p1 p2 = some r ∧ mX8_isTrue τ p1 p2 = some (r, τ') ∧ τ'.1 0 0 = 0 ∧ RR σ τ') ∨ (∃ (v : Int32) (τ' : St), tX7_isTrue σ p1 p2 = some 3 ∧ mX8_isTrue τ p1 p2 = some (v, τ') ∧ τ'.1 0 0 = 1 ∧ RR σ τ') ∨ (∃ (v : Int32) (τ' : St), tX7_isTrue σ p1 p2 = some 2 ∧ mX8_isTrue τ p1 p2 = some (v, τ') ∧ τ'.1 0 0 = 2 ∧ RR σ τ') := by
  have hR := RR_thr h
  obtain ⟨F, T, hf, _⟩ := h
  have hF := hf.le
  have h0 := hf.1.2.1
  have h5 := hf.1.2.2
  rcases kn_rel hf p1 with ⟨j, hj, rfl, k1, k8⟩ | ⟨k1, k8⟩
  · have k8' := k8 τ h5
    rcases x8_in p2 255 (by omega) with ⟨q, hq, rfl, h1⟩ | ⟨h1, hx, h2⟩
    · refine Or.inl ⟨zB (btL (σ.2 (4 * j + q / 64)) (q % 64)), su τ 0 (fun _ => nI 0), ?_, ?_, rfl, hR _⟩
      · have e1 : nI q >>> (nI 6 &&& nI 31) = nI (q / 64) := pk_shrN (by omega) _ 6 (by decide)
        have e2 : nI q &&& nI 63 = nI (q % 64) := pk_andN (by omega) 6 (by decide)
        have t := gn_truth h0 hF hj (w := q / 64) (by omega)
        have b := bit_of (σ.2 (4 * j + q / 64)) (k := q % 64) (by omega)
        cases hb : btL (σ.2 (4 * j + q / 64)) (q % 64)
        · rw [hb] at b
          simp (disch := omega) only [mX7_isTrue, k1, e1, e2, t, b, zB_0, Bool.false_eq_true, ↓bnd_e, ↓ob_s, ob_s, su_1, su_2, sl_1, sl_2, ↓ck_n, ck_n, ck_Z0, ck_Z1, c_lt, c_le, c_eq, ng_1, m_ne, m_en, m_lt, m_le, m_gt, m_ge, n_add, n_mul, n_sub, n_sm, n_pm, n_0m, n_cl, Nat.reduceEqDiff, ↓reduceIte, nle_T, nle_F, nlt_T, nlt_F, neq_F, neq_T, if_true, if_false, true_and, and_true, Nat.mul_zero, Nat.zero_add, Nat.add_zero, Nat.reduceAdd, Nat.reduceMul, Nat.reduceSub, li_0, li_1, li_2, li_3, li_4, li_5, li_6, li_7, li_8, li_9, li_10, li_11, li_12, li_13, li_14, li_15, li_16, li_20, li_24, li_28, li_31, li_35, li_38, li_40, li_41, li_45, li_48, li_60, li_62, li_63, li_97, li_100, li_104, li_105, li_120, li_124, li_127, li_180, li_239, li_240, li_255, li_256, li_300, li_400, li_960, li_1000000]
          rfl
        · rw [hb] at b
          simp (disch := omega) only [mX7_isTrue, k1, e1, e2, t, b, zB_1, ↓bnd_e, ↓ob_s, ob_s, su_1, su_2, sl_1, sl_2, ↓ck_n, ck_n, ck_Z0, ck_Z1, c_lt, c_le, c_eq, ng_1, m_ne, m_en, m_lt, m_le, m_gt, m_ge, n_add, n_mul, n_sub, n_sm, n_pm, n_0m, n_cl, Nat.reduceEqDiff, ↓reduceIte, nle_T, nle_F, nlt_T, nlt_F, neq_F, neq_T, if_true, if_false, true_and, and_true, Nat.mul_zero, Nat.zero_add, Nat.add_zero, Nat.reduceAdd, Nat.reduceMul, Nat.reduceSub, li_0, li_1, li_2, li_3, li_4, li_5, li_6, li_7, li_8, li_9, li_10, li_11, li_12, li_13, li_14, li_15, li_16, li_20, li_24, li_28, li_31, li_35, li_38, li_40, li_41, li_45, li_48, li_60, li_62, li_63, li_97, li_100, li_104, li_105, li_120, li_124, li_127, li_180, li_239, li_240, li_255, li_256, li_300, li_400, li_960, li_1000000]
          rfl
      · have hf' : RF F σ (su τ 0 (fun _ => nI 0)) := hf.c (fun _ _ => rfl) rfl (.k (KE.rf.s (l := [0]) (by decide)) (by decide))
        have e := x8_it (t := su τ 0 (fun _ => nI 0)) (p := j) (k := q) (by omega) (by omega) (hf'.tr j hj q (by omega))
        cases hb : btL (σ.2 (4 * j + q / 64)) (q % 64)
        · rw [hb] at e
          simp (disch := omega) only [mX8_isTrue, mX8_isTrue_29, k8', h1, e, zB_0, ↓bnd_e, ↓ob_s, ob_s, su_1, su_2, sl_1, sl_2, ↓ck_n, ck_n, ck_Z0, ck_Z1, c_lt, c_le, c_eq, ng_1, m_ne, m_en, m_lt, m_le, m_gt, m_ge, n_add, n_mul, n_sub, n_sm, n_pm, n_0m, n_cl, Nat.reduceEqDiff, ↓reduceIte, nle_T, nle_F, nlt_T, nlt_F, neq_F, neq_T, if_true, if_false, true_and, and_true, Nat.mul_zero, Nat.zero_add, Nat.add_zero, Nat.reduceAdd, Nat.reduceMul, Nat.reduceSub, li_0, li_1, li_2, li_3, li_4, li_5, li_6, li_7, li_8, li_9, li_10, li_11, li_12, li_13, li_14, li_15, li_16, li_20, li_24, li_28, li_31, li_35, li_38, li_40, li_41, li_45, li_48, li_60, li_62, li_63, li_97, li_100, li_104, li_105, li_120, li_124, li_127, li_180, li_239, li_240, li_255, li_256, li_300, li_400, li_960, li_1000000]
        · rw [hb] at e
          simp (disch := omega) only [mX8_isTrue, mX8_isTrue_29, k8', h1, e, zB_1, ↓bnd_e, ↓ob_s, ob_s, su_1, su_2, sl_1, sl_2, ↓ck_n, ck_n, ck_Z0, ck_Z1, c_lt, c_le, c_eq, ng_1, m_ne, m_en, m_lt, m_le, m_gt, m_ge, n_add, n_mul, n_sub, n_sm, n_pm, n_0m, n_cl, Nat.reduceEqDiff, ↓reduceIte, nle_T, nle_F, nlt_T, nlt_F, neq_F, neq_T, if_true, if_false, true_and, and_true, Nat.mul_zero, Nat.zero_add, Nat.add_zero, Nat.reduceAdd, Nat.reduceMul, Nat.reduceSub, li_0, li_1, li_2, li_3, li_4, li_5, li_6, li_7, li_8, li_9, li_10, li_11, li_12, li_13, li_14, li_15, li_16, li_20, li_24, li_28, li_31, li_35, li_38, li_40, li_41, li_45, li_48, li_60, li_62, li_63, li_97, li_100, li_104, li_105, li_120, li_124, li_127, li_180, li_239, li_240, li_255, li_256, li_300, li_400, li_960, li_1000000]
    · refine Or.inr (Or.inr ⟨nI 0, su τ 0 (fun _ => nI 2), ?_, ?_, rfl, hR _⟩)
      · rcases ix3 p2 256 (by omega) with ⟨h, h'⟩ | ⟨h, h', _, h2, h3⟩ | ⟨j, hj, rfl⟩
        · simp (disch := omega) only [tX7_isTrue, k1, h, ↓bnd_e, ↓ob_s, ob_s, su_1, su_2, sl_1, sl_2, ↓ck_n, ck_n, ck_Z0, ck_Z1, c_lt, c_le, c_eq, ng_1, m_ne, m_en, m_lt, m_le, m_gt, m_ge, n_add, n_mul, n_sub, n_sm, n_pm, n_0m, n_cl, Nat.reduceEqDiff, ↓reduceIte, nle_T, nle_F, nlt_T, nlt_F, neq_F, neq_T, if_true, if_false, true_and, and_true, Nat.mul_zero, Nat.zero_add, Nat.add_zero, Nat.reduceAdd, Nat.reduceMul, Nat.reduceSub, li_0, li_1, li_2, li_3, li_4, li_5, li_6, li_7, li_8, li_9, li_10, li_11, li_12, li_13, li_14, li_15, li_16, li_20, li_24, li_28, li_31, li_35, li_38, li_40, li_41, li_45, li_48, li_60, li_62, li_63, li_97, li_100, li_104, li_105, li_120, li_124, li_127, li_180, li_239, li_240, li_255, li_256, li_300, li_400, li_960, li_1000000]
        · have := (h3 256 (by omega)).2
          simp (disch := omega) only [tX7_isTrue, k1, h, this, ↓bnd_e, ↓ob_s, ob_s, su_1, su_2, sl_1, sl_2, ↓ck_n, ck_n, ck_Z0, ck_Z1, c_lt, c_le, c_eq, ng_1, m_ne, m_en, m_lt, m_le, m_gt, m_ge, n_add, n_mul, n_sub, n_sm, n_pm, n_0m, n_cl, Nat.reduceEqDiff, ↓reduceIte, nle_T, nle_F, nlt_T, nlt_F, neq_F, neq_T, if_true, if_false, true_and, and_true, Nat.mul_zero, Nat.zero_add, Nat.add_zero, Nat.reduceAdd, Nat.reduceMul, Nat.reduceSub, li_0, li_1, li_2, li_3, li_4, li_5, li_6, li_7, li_8, li_9, li_10, li_11, li_12, li_13, li_14, li_15, li_16, li_20, li_24, li_28, li_31, li_35, li_38, li_40, li_41, li_45, li_48, li_60, li_62, li_63, li_97, li_100, li_104, li_105, li_120, li_124, li_127, li_180, li_239, li_240, li_255, li_256, li_300, li_400, li_960, li_1000000]
        · exact (hx ⟨j, by omega, rfl⟩).elim
      · simp (disch := omega) only [mX8_isTrue, mX8_isTrue_29, k8', h2, ↓bnd_e, ↓ob_s, ob_s, su_1, su_2, sl_1, sl_2, ↓ck_n, ck_n, ck_Z0, ck_Z1, c_lt, c_le, c_eq, ng_1, m_ne, m_en, m_lt, m_le, m_gt, m_ge, n_add, n_mul, n_sub, n_sm, n_pm, n_0m, n_cl, Nat.reduceEqDiff, ↓reduceIte, nle_T, nle_F, nlt_T, nlt_F, neq_F, neq_T, if_true, if_false, true_and, and_true, Nat.mul_zero, Nat.zero_add, Nat.add_zero, Nat.reduceAdd, Nat.reduceMul, Nat.reduceSub, li_0, li_1, li_2, li_3, li_4, li_5, li_6, li_7, li_8, li_9, li_10, li_11, li_12, li_13, li_14, li_15, li_16, li_20, li_24, li_28, li_31, li_35, li_38, li_40, li_41, li_45, li_48, li_60, li_62, li_63, li_97, li_100, li_104, li_105, li_120, li_124, li_127, li_180, li_239, li_240, li_255, li_256, li_300, li_400, li_960, li_1000000]
  · have k8' := k8 τ h5
    refine Or.inr (Or.inl ⟨nI 0, su τ 0 (fun _ => nI 1), ?_, ?_, rfl, hR _⟩)
    · simp (disch := omega) only [tX7_isTrue, k1, ↓bnd_e, ↓ob_s, ob_s, su_1, su_2, sl_1, sl_2, ↓ck_n, ck_n, ck_Z0, ck_Z1, c_lt, c_le, c_eq, ng_1, m_ne, m_en, m_lt, m_le, m_gt, m_ge, n_add, n_mul, n_sub, n_sm, n_pm, n_0m, n_cl, Nat.reduceEqDiff, ↓reduceIte, nle_T, nle_F, nlt_T, nlt_F, neq_F, neq_T, if_true, if_false, true_and, and_true, Nat.mul_zero, Nat.zero_add, Nat.add_zero, Nat.reduceAdd, Nat.reduceMul, Nat.reduceSub, li_0, li_1, li_2, li_3, li_4, li_5, li_6, li_7, li_8, li_9, li_10, li_11, li_12, li_13, li_14, li_15, li_16, li_20, li_24, li_28, li_31, li_35, li_38, li_40, li_41, li_45, li_48, li_60, li_62, li_63, li_97, li_100, li_104, li_105, li_120, li_124, li_127, li_180, li_239, li_240, li_255, li_256, li_300, li_400, li_960, li_1000000]
    · simp (disch := omega) only [mX8_isTrue, mX8_isTrue_29, k8', ↓bnd_e, ↓ob_s, ob_s, su_1, su_2, sl_1, sl_2, ↓ck_n, ck_n, ck_Z0, ck_Z1, c_lt, c_le, c_eq, ng_1, m_ne, m_en, m_lt, m_le, m_gt, m_ge, n_add, n_mul, n_sub, n_sm, n_pm, n_0m, n_cl, Nat.reduceEqDiff, ↓reduceIte, nle_T, nle_F, nlt_T, nlt_F, neq_F, neq_T, if_true, if_false, true_and, and_true, Nat.mul_zero, Nat.zero_add, Nat.add_zero, Nat.reduceAdd, Nat.reduceMul, Nat.reduceSub, li_0, li_1, li_2, li_3, li_4, li_5, li_6, li_7, li_8, li_9, li_10, li_11, li_12, li_13, li_14, li_15, li_16, li_20, li_24, li_28, li_31, li_35, li_38, li_40, li_41, li_45, li_48, li_60, li_62, li_63, li_97, li_100, li_104, li_105, li_120, li_124, li_127, li_180, li_239, li_240, li_255, li_256, li_300, li_400, li_960, li_1000000]
