theorem TVf_new {F s l p q : Nat} {σ u : St} {T : Nat → Int64} {x y z1 z2 z3 : Int32} (h : TVf F σ) (hF : F < 240) (ha : AX F s l p q x y) (hA : AD σ u F T [(12, nI s), (13, x), (14, y), (15, z1), (16, z2), (17, z3)]) (hTB : ∀ k, k < 256 → btL (T (k / 64)) (k % 64) = VB σ s l p q k) : TVf (F + 1) u := by
  have P := hA.pf
  have et : ∀ j, j < F → ∀ k, k < 256 → tv u j k = tv σ j k := fun j hj k hk => by unfold tv; rw [P.2 _ (by omega)]
  have eF : ∀ k, k < 256 → tv u F k = VB σ s l p q k := fun k hk => by unfold tv; rw [hA.2.2.2.2 _ (by omega)]; exact hTB k hk
  have u12 : u.1 12 F = nI s := by rw [hA.2.2.1 12 (nI s) (by simp), pk_us]
  have u13 : u.1 13 F = x := by rw [hA.2.2.1 13 x (by simp), pk_us]
  have u14 : u.1 14 F = y := by rw [hA.2.2.1 14 y (by simp), pk_us]
  have hs5 : s ≤ 5 := by rcases ha with ⟨e, _⟩ | ⟨e, _⟩ | ⟨e, _⟩ | ⟨_, e, _⟩ <;> omega
  intro j hj k hk
  by_cases e : j < F
  · rw [P.1 12 j (by omega) (by omega) e, P.1 13 j (by omega) (by omega) e, P.1 14 j (by omega) (by omega) e, et j e k hk]
    obtain ⟨a1, a2, a3, a4, a5⟩ := h j e k hk
    refine ⟨a1, fun h1 p' hp e1 => ?_, fun h1 p' r' hp hr e1 e2 => ?_, fun h1 p' r' hp hr e1 e2 => ?_, fun h1 p' r' hp hr e1 e2 => ?_⟩
    · rw [et p' (by omega) k hk]; exact a2 h1 p' hp e1
    · rw [et p' (by omega) k hk, et r' (by omega) k hk]; exact a3 h1 p' r' hp hr e1 e2
    · rw [et p' (by omega) k hk, et r' (by omega) k hk]; exact a4 h1 p' r' hp hr e1 e2
    · rw [et p' (by omega) k hk, et r' (by omega) k hk]; exact a5 h1 p' r' hp hr e1 e2
  · have : j = F := by omega
    subst this
    rw [u12, u13, u14, eF k hk]
    refine ⟨fun h1 => ?_, fun h1 p' hp e1 => ?_, fun h1 p' r' hp hr e1 e2 => ?_, fun h1 p' r' hp hr e1 e2 => ?_, fun h1 p' r' hp hr e1 e2 => ?_⟩
    · rw [c_eq (by omega) (by omega)] at h1
      subst h1; rfl
    · rw [c_eq (by omega) (by omega)] at h1
      subst h1
      rcases ha with ⟨c, _⟩ | ⟨c, _⟩ | ⟨_, hpj, rfl, _⟩ | ⟨c, _⟩
      · omega
      · omega
      · rw [c_eq (by omega) (by omega)] at e1
        subst e1
        rw [et p (by omega) k hk]; rfl
      · omega
    all_goals
      rw [c_eq (by omega) (by omega)] at h1
      subst h1
      rcases ha with ⟨c, _⟩ | ⟨c, _⟩ | ⟨c, _⟩ | ⟨_, _, hpj, hqj, rfl, rfl⟩
      · omega
      · omega
      · omega
      · rw [c_eq (by omega) (by omega)] at e1 e2
        subst e1
        subst e2
        rw [et p (by omega) k hk, et q (by omega) k hk]; rfl
/-- a number asked for while there is room -/
theorem mk_1 {F s l p q : Nat} {σ τ : St} (h : RF F σ τ) (ht : TVf F σ) (h240 : F < 240) {x y f g : Int32} (ha : AX F s l p q x y) (hc : CG s x y f g) :
    ∃ k σ' τ' F', mX1_number σ (nI s) f g = some (nI k, σ') ∧ RF F' σ' τ' ∧ F ≤ F' ∧ F' ≤ F + 1 ∧ k < F' ∧ KE kF σ σ' ∧ KE kM τ τ' ∧ TVf F' σ' := by
  have hF := h.le
  have h0 := h.1.2.1
  have h5 := h.1.2.2
  rw [num_34 h ha hc]
  obtain ⟨r, e1, e8, hr⟩ := find_r hF h0 h5 h.f3 (nI s) x y
  rcases hr with ⟨rfl, hno⟩ | ⟨k, hk, rfl, _⟩
  · obtain ⟨σ', τ', a1, a2, a3, a4, a5, a6, a7⟩ := num_new h h240 ha e1 e8 hno
    obtain ⟨T, hT⟩ := TW_t hF h0 (nI s) x (if nI s < nI 2 then mI else x) y
    have hTB := TW_b hF h0 ha hT
    generalize hl : (if nI s < nI 2 then mI else x) = left at hT
    obtain ⟨w1, hw1⟩ : ∃ w, mX1_width σ left = some w := by rcases g1_width hF h0 left with ⟨_, _, _, h⟩ | h <;> exact ⟨_, h⟩
    obtain ⟨w2, hw2⟩ : ∃ w, mX1_width σ y = some w := by rcases g1_width hF h0 y with ⟨_, _, _, h⟩ | h <;> exact ⟨_, h⟩
    obtain ⟨k1, hk1⟩ : ∃ w, mX1_sort σ left = some w := by rcases g1_sort hF h0 left with ⟨_, _, _, h⟩ | h <;> exact ⟨_, h⟩
    obtain ⟨k2, hk2⟩ : ∃ w, mX1_sort σ y = some w := by rcases g1_sort hF h0 y with ⟨_, _, _, h⟩ | h <;> exact ⟨_, h⟩
    obtain ⟨z1, hz1⟩ : ∃ w, mX1_size σ left = some w := by rcases g1_size hF h0 left with ⟨_, _, _, h⟩ | h <;> exact ⟨_, h⟩
    obtain ⟨z2, hz2⟩ : ∃ w, mX1_size σ y = some w := by rcases g1_size hF h0 y with ⟨_, _, _, h⟩ | h <;> exact ⟨_, h⟩
    obtain ⟨a, haa⟩ : ∃ w, mX1_letters σ left = some w := by rcases g1_letters hF h0 left with ⟨_, _, _, h⟩ | h <;> exact ⟨_, h⟩
    obtain ⟨b, hb⟩ : ∃ w, mX1_letters σ y = some w := by rcases g1_letters hF h0 y with ⟨_, _, _, h⟩ | h <;> exact ⟨_, h⟩
    obtain ⟨c1, hc1⟩ : ∃ w, mX1_needsBrackets σ (nI s) k1 (nI 0) = some w := by rcases nb_t σ (nI s) k1 (nI 0) with h | h <;> exact ⟨_, h⟩
    obtain ⟨c2, hc2⟩ : ∃ w, mX1_needsBrackets σ (nI s) k2 (nI 1) = some w := by rcases nb_t σ (nI s) k2 (nI 1) with h | h <;> exact ⟨_, h⟩
    obtain ⟨u, eu, hA⟩ := x1_add h240 h0 hl.symm hT hw1 hw2 hk1 hc1 hk2 hc2 hz1 hz2 haa hb
    have e34 : mX1_number_34 σ (nI s) x y = some (nI F, u) := by
      have e0 : nI (F + 1) - 1 = nI F := nI_pred F
      have hu := hA.1
      simp (disch := omega) only [mX1_number_34, e1, h0, eu, hu, bnd_e, ob_s, su_1, su_2, sl_1, sl_2, ck_n, ck_Z0, ck_Z1, c_lt, c_le, c_eq, ng_1, m_ne, m_en, m_lt, m_le, m_gt, m_ge, n_add, n_mul, n_sub, n_sm, n_pm, n_0m, n_cl, Nat.reduceEqDiff, reduceIte, if_pos, if_neg, if_true, if_false, true_and, and_true, Nat.mul_zero, Nat.zero_add, Nat.add_zero, Nat.reduceAdd, Nat.reduceMul, Nat.reduceSub, li_0, li_1, li_2, li_3, li_4, li_5, li_6, li_7, li_8, li_9, li_10, li_11, li_12, li_13, li_14, li_15, li_16, li_20, li_24, li_28, li_31, li_35, li_38, li_40, li_41, li_45, li_48, li_60, li_62, li_63, li_97, li_100, li_104, li_105, li_120, li_124, li_127, li_180, li_239, li_240, li_255, li_256, li_300, li_400, li_960, li_1000000, Nat.add_sub_cancel]
    have eq : σ' = u := congrArg Prod.snd (Option.some.inj (a1.symm.trans e34))
    exact ⟨F, σ', τ', F + 1, a1, a3, by omega, by omega, by omega, a6, a7, by rw [eq]; exact TVf_new ht h240 ha hA hTB⟩
  · refine ⟨k, σ, τ, F, ?_, h, by omega, by omega, hk, KE.rf, KE.rf, ht⟩
    simp (disch := omega) only [mX1_number_34, e1, h0, bnd_e, ob_s, su_1, su_2, sl_1, sl_2, ck_n, ck_Z0, ck_Z1, c_lt, c_le, c_eq, ng_1, m_ne, m_en, m_lt, m_le, m_gt, m_ge, n_add, n_mul, n_sub, n_sm, n_pm, n_0m, n_cl, Nat.reduceEqDiff, reduceIte, if_pos, if_neg, if_true, if_false, true_and, and_true, Nat.mul_zero, Nat.zero_add, Nat.add_zero, Nat.reduceAdd, Nat.reduceMul, Nat.reduceSub, li_0, li_1, li_2, li_3, li_4, li_5, li_6, li_7, li_8, li_9, li_10, li_11, li_12, li_13, li_14, li_15, li_16, li_20, li_24, li_28, li_31, li_35, li_38, li_40, li_41, li_45, li_48, li_60, li_62, li_63, li_97, li_100, li_104, li_105, li_120, li_124, li_127, li_180, li_239, li_240, li_255, li_256, li_300, li_400, li_960, li_1000000]
/-- make, as the law asks for it -/
theorem mk_2 {F s p q : Nat} {σ τ : St} (h : RF F σ τ) (ht : TVf F σ) (h240 : F < 240) (hs : s ≤ 5) (hl : s = 0 → p < 8) (hp : s ≠ 0 → p < F ∧ q < F) :
    ∃ k σ' τ' F', mX7_make σ (nI s) (nI p) (nI q) = some (nI k, σ') ∧ RF F' σ' τ' ∧ F ≤ F' ∧ F' ≤ F + 1 ∧ k < F' ∧ KE kF σ σ' ∧ KE kM τ τ' ∧ TVf F' σ' := by
  have h0 := h.1.2.1
  have fin : ∀ (x y : Int32) (l a b : Nat), AX F s l a b x y → CG s x y (nI p) (nI q) → mX1_hasParts σ (nI s) (nI p) (nI q) = some (nI 1) →
      ∃ k σ' τ' F', mX7_make σ (nI s) (nI p) (nI q) = some (nI k, σ') ∧ RF F' σ' τ' ∧ F ≤ F' ∧ F' ≤ F + 1 ∧ k < F' ∧ KE kF σ σ' ∧ KE kM τ τ' ∧ TVf F' σ' := by
    intro x y l a b ha hc hp1
    obtain ⟨k, σ', τ', F', n1, r1, r2, r3, r4, r5, r6, r7⟩ := mk_1 h ht h240 ha hc
    refine ⟨k, σ', τ', F', ?_, r1, r2, r3, r4, r5, r6, r7⟩
    by_cases hs0 : s = 0
    · have := hl hs0
      subst hs0
      simp (implicitDefEqProofs := false) (disch := omega) only [mX7_make, mX7_make_43, hp1, n1, ↓bnd_e, ↓ob_s, ob_s, su_1, su_2, sl_1, sl_2, ↓ck_n, ck_n, ck_Z0, ck_Z1, c_lt, c_le, c_eq, ng_1, m_ne, m_en, m_lt, m_le, m_gt, m_ge, n_add, n_mul, n_sub, n_sm, n_pm, n_0m, n_cl, Nat.reduceEqDiff, ↓reduceIte, nle_T, nle_F, nlt_T, nlt_F, neq_F, neq_T, if_true, if_false, true_and, and_true, Nat.mul_zero, Nat.zero_add, Nat.add_zero, Nat.reduceAdd, Nat.reduceMul, Nat.reduceSub, li_0, li_1, li_2, li_3, li_4, li_5, li_6, li_7, li_8, li_9, li_10, li_11, li_12, li_13, li_14, li_15, li_16, li_20, li_24, li_28, li_31, li_35, li_38, li_40, li_41, li_45, li_48, li_60, li_62, li_63, li_97, li_100, li_104, li_105, li_120, li_124, li_127, li_180, li_239, li_240, li_255, li_256, li_300, li_400, li_960, li_1000000]
    · have q : ¬ nI s = nI 0 := by rw [c_eq (by omega) (by omega)]; exact hs0
      simp (implicitDefEqProofs := false) (disch := omega) only [mX7_make, mX7_make_43, hp1, n1, hs0, q, ↓bnd_e, ↓ob_s, ob_s, su_1, su_2, sl_1, sl_2, ↓ck_n, ck_n, ck_Z0, ck_Z1, c_lt, c_le, c_eq, ng_1, m_ne, m_en, m_lt, m_le, m_gt, m_ge, n_add, n_mul, n_sub, n_sm, n_pm, n_0m, n_cl, Nat.reduceEqDiff, ↓reduceIte, nle_T, nle_F, nlt_T, nlt_F, neq_F, neq_T, if_true, if_false, true_and, and_true, Nat.mul_zero, Nat.zero_add, Nat.add_zero, Nat.reduceAdd, Nat.reduceMul, Nat.reduceSub, li_0, li_1, li_2, li_3, li_4, li_5, li_6, li_7, li_8, li_9, li_10, li_11, li_12, li_13, li_14, li_15, li_16, li_20, li_24, li_28, li_31, li_35, li_38, li_40, li_41, li_45, li_48, li_60, li_62, li_63, li_97, li_100, li_104, li_105, li_120, li_124, li_127, li_180, li_239, li_240, li_255, li_256, li_300, li_400, li_960, li_1000000]
  have hs4 : s = 0 ∨ s = 1 ∨ s = 2 ∨ 3 ≤ s := by omega
  rcases hs4 with rfl | rfl | rfl | hs3
  · have := hl rfl
    exact fin (nI p) mI p 0 0 (Or.inl ⟨rfl, this, rfl, rfl⟩) (Or.inl ⟨rfl, rfl⟩) (by simp (implicitDefEqProofs := false) (disch := omega) only [mX1_hasParts, ↓bnd_e, ↓ob_s, ob_s, su_1, su_2, sl_1, sl_2, ↓ck_n, ck_n, ck_Z0, ck_Z1, c_lt, c_le, c_eq, ng_1, m_ne, m_en, m_lt, m_le, m_gt, m_ge, n_add, n_mul, n_sub, n_sm, n_pm, n_0m, n_cl, Nat.reduceEqDiff, ↓reduceIte, nle_T, nle_F, nlt_T, nlt_F, neq_F, neq_T, if_true, if_false, true_and, and_true, Nat.mul_zero, Nat.zero_add, Nat.add_zero, Nat.reduceAdd, Nat.reduceMul, Nat.reduceSub, li_0, li_1, li_2, li_3, li_4, li_5, li_6, li_7, li_8, li_9, li_10, li_11, li_12, li_13, li_14, li_15, li_16, li_20, li_24, li_28, li_31, li_35, li_38, li_40, li_41, li_45, li_48, li_60, li_62, li_63, li_97, li_100, li_104, li_105, li_120, li_124, li_127, li_180, li_239, li_240, li_255, li_256, li_300, li_400, li_960, li_1000000])
  · exact fin mI mI 0 0 0 (Or.inr (Or.inl ⟨rfl, rfl, rfl⟩)) (Or.inr (Or.inl rfl)) (by simp (implicitDefEqProofs := false) (disch := omega) only [mX1_hasParts, ↓bnd_e, ↓ob_s, ob_s, su_1, su_2, sl_1, sl_2, ↓ck_n, ck_n, ck_Z0, ck_Z1, c_lt, c_le, c_eq, ng_1, m_ne, m_en, m_lt, m_le, m_gt, m_ge, n_add, n_mul, n_sub, n_sm, n_pm, n_0m, n_cl, Nat.reduceEqDiff, ↓reduceIte, nle_T, nle_F, nlt_T, nlt_F, neq_F, neq_T, if_true, if_false, true_and, and_true, Nat.mul_zero, Nat.zero_add, Nat.add_zero, Nat.reduceAdd, Nat.reduceMul, Nat.reduceSub, li_0, li_1, li_2, li_3, li_4, li_5, li_6, li_7, li_8, li_9, li_10, li_11, li_12, li_13, li_14, li_15, li_16, li_20, li_24, li_28, li_31, li_35, li_38, li_40, li_41, li_45, li_48, li_60, li_62, li_63, li_97, li_100, li_104, li_105, li_120, li_124, li_127, li_180, li_239, li_240, li_255, li_256, li_300, li_400, li_960, li_1000000])
  · obtain ⟨p1, p2⟩ := hp (by omega)
    exact fin (nI p) mI 0 p 0 (Or.inr (Or.inr (Or.inl ⟨rfl, p1, rfl, rfl⟩))) (Or.inr (Or.inr (Or.inl ⟨rfl, rfl⟩))) (by simp (implicitDefEqProofs := false) (disch := omega) only [mX1_hasParts, mX1_isKnown, h0, ↓bnd_e, ↓ob_s, ob_s, su_1, su_2, sl_1, sl_2, ↓ck_n, ck_n, ck_Z0, ck_Z1, c_lt, c_le, c_eq, ng_1, m_ne, m_en, m_lt, m_le, m_gt, m_ge, n_add, n_mul, n_sub, n_sm, n_pm, n_0m, n_cl, Nat.reduceEqDiff, ↓reduceIte, nle_T, nle_F, nlt_T, nlt_F, neq_F, neq_T, if_true, if_false, true_and, and_true, Nat.mul_zero, Nat.zero_add, Nat.add_zero, Nat.reduceAdd, Nat.reduceMul, Nat.reduceSub, li_0, li_1, li_2, li_3, li_4, li_5, li_6, li_7, li_8, li_9, li_10, li_11, li_12, li_13, li_14, li_15, li_16, li_20, li_24, li_28, li_31, li_35, li_38, li_40, li_41, li_45, li_48, li_60, li_62, li_63, li_97, li_100, li_104, li_105, li_120, li_124, li_127, li_180, li_239, li_240, li_255, li_256, li_300, li_400, li_960, li_1000000])
  · obtain ⟨p1, p2⟩ := hp (by omega)
    have s0 : ¬ nI s = nI 0 := by rw [c_eq (by omega) (by omega)]; omega
    have s1 : ¬ nI s = nI 1 := by rw [c_eq (by omega) (by omega)]; omega
    have s2 : ¬ nI s = nI 2 := by rw [c_eq (by omega) (by omega)]; omega
    exact fin (nI p) (nI q) 0 p q (Or.inr (Or.inr (Or.inr ⟨hs3, hs, p1, p2, rfl, rfl⟩))) (Or.inr (Or.inr (Or.inr ⟨hs3, rfl, rfl⟩))) (by simp (implicitDefEqProofs := false) (disch := omega) only [mX1_hasParts, mX1_isKnown, h0, s0, s1, s2, ↓bnd_e, ↓ob_s, ob_s, su_1, su_2, sl_1, sl_2, ↓ck_n, ck_n, ck_Z0, ck_Z1, c_lt, c_le, c_eq, ng_1, m_ne, m_en, m_lt, m_le, m_gt, m_ge, n_add, n_mul, n_sub, n_sm, n_pm, n_0m, n_cl, Nat.reduceEqDiff, ↓reduceIte, nle_T, nle_F, nlt_T, nlt_F, neq_F, neq_T, if_true, if_false, true_and, and_true, Nat.mul_zero, Nat.zero_add, Nat.add_zero, Nat.reduceAdd, Nat.reduceMul, Nat.reduceSub, li_0, li_1, li_2, li_3, li_4, li_5, li_6, li_7, li_8, li_9, li_10, li_11, li_12, li_13, li_14, li_15, li_16, li_20, li_24, li_28, li_31, li_35, li_38, li_40, li_41, li_45, li_48, li_60, li_62, li_63, li_97, li_100, li_104, li_105, li_120, li_124, li_127, li_180, li_239, li_240, li_255, li_256, li_300, li_400, li_960, li_1000000])
/-- the law's helpers -/
theorem bw (σ : St) (v : Int32) {N : Nat} (h0 : 0 < N) (hN : N < 2147483648) : ∃ j, j < N ∧ mL_below σ v (nI N) = some (nI j) := by
  refine ⟨v.toBitVec.toNat % 2 ^ 31 % N, Nat.mod_lt _ h0, ?_⟩
  unfold mL_below chkD
  rw [if_neg (nI_ne0 h0 hN)]
  have e : v &&& 2147483647 = nI (v.toBitVec.toNat % 2 ^ 31) := pk_and v 31 (by decide)
  rw [e, pk_rem (Nat.mod_lt _ (by decide)) h0 hN]
theorem cell_t (xs : Nat → Int32) (L : Nat) {i : Nat} (hi : i < 1000) : ∃ r, mL_cell xs L (nI i) = some r := by
  unfold mL_cell chkI
  by_cases h : Int32.ofNat L ≤ nI i
  · exact ⟨_, if_pos h⟩
  · rw [if_neg h]
    have hL : i < L := by
      rcases Nat.lt_or_ge i L with h1 | h1
      · exact h1
      · exact (h (nI_le h1 (by omega))).elim
    rw [if_neg (by rw [n_cl (by omega)]; intro h2; rcases h2 with h2 | h2; exact nI_pos (by omega) h2; omega)]
    exact ⟨_, rfl⟩
/-- while formulas are made -/
def MI (k F : Nat) (σ τ : St) : Prop := RF F σ τ ∧ TVf F σ ∧ F ≤ k ∧ (1 ≤ k → 1 ≤ F) ∧ KE kF σ0 σ ∧ KE kM τ0 τ
theorem mk_100 {k F s p q : Nat} {σ τ : St} (xs : Nat → Int32) (L : Nat) (h : MI k F σ τ) (hk : k < 14) (hs : s ≤ 5) (hl : s = 0 → p < 8) (hp : s ≠ 0 → p < F ∧ q < F) (kh : St → Int32 → Int32 → Option Unit) :
    ∃ F' σ' τ', MI (k + 1) F' σ' τ' ∧ mL_law_100 xs L kh σ (nI k) (nI q) (nI p) (nI s) = kh σ' (nI F') (nI (k + 1)) := by
  obtain ⟨h1, h2, h3, h4, h5, h6⟩ := h
  obtain ⟨j, σ', τ', F', e1, e2, e3, e4, e5, e6, e7, e8⟩ := mk_2 h1 h2 (by omega) hs hl hp
  refine ⟨F', σ', τ', ⟨e2, e8, by omega, fun _ => by omega, h5.tr e6, h6.tr e7⟩, ?_⟩
  have h0 := e2.1.2.1
  have hF := e2.le
  simp (implicitDefEqProofs := false) (disch := omega) only [mL_law_100, e1, mX7_count, mX1_known, h0, ↓bnd_e, ↓ob_s, ob_s, su_1, su_2, sl_1, sl_2, ↓ck_n, ck_n, ck_Z0, ck_Z1, c_lt, c_le, c_eq, ng_1, m_ne, m_en, m_lt, m_le, m_gt, m_ge, n_add, n_mul, n_sub, n_sm, n_pm, n_0m, n_cl, Nat.reduceEqDiff, ↓reduceIte, nle_T, nle_F, nlt_T, nlt_F, neq_F, neq_T, if_true, if_false, true_and, and_true, Nat.mul_zero, Nat.zero_add, Nat.add_zero, Nat.reduceAdd, Nat.reduceMul, Nat.reduceSub, li_0, li_1, li_2, li_3, li_4, li_5, li_6, li_7, li_8, li_9, li_10, li_11, li_12, li_13, li_14, li_15, li_16, li_20, li_24, li_28, li_31, li_35, li_38, li_40, li_41, li_45, li_48, li_60, li_62, li_63, li_97, li_100, li_104, li_105, li_120, li_124, li_127, li_180, li_239, li_240, li_255, li_256, li_300, li_400, li_960, li_1000000]
theorem mk_53 {k F s : Nat} {σ τ : St} (xs : Nat → Int32) (L : Nat) (h : MI k F σ τ) (hk : k < 14) (hs : s ≤ 5) (h2 : k < 2 → s = 0) (h3 : 2 ≤ k → 1 ≤ s) (x : Int32) (kh : St → Int32 → Int32 → Option Unit) :
    ∃ F' σ' τ', MI (k + 1) F' σ' τ' ∧ mL_law_53 xs L kh σ (nI F) (nI k) x (nI s) = kh σ' (nI F') (nI (k + 1)) := by
  have hF := h.1.le
  have go : ∀ p, (s = 0 → p < 8) → (s ≠ 0 → p < F) → ∃ F' σ' τ', MI (k + 1) F' σ' τ' ∧ mL_law_83 xs L kh σ (nI F) (nI k) x (nI p) (nI s) = kh σ' (nI F') (nI (k + 1)) := by
    intro p hp1 hp2
    by_cases f0 : F = 0
    · have s0 : s = 0 := by
        by_cases e : s = 0
        · exact e
        · have := hp2 e; omega
      obtain ⟨F', σ', τ', a, b⟩ := mk_100 (p := p) (q := 0) xs L h hk hs hp1 (fun e => absurd s0 e) kh
      refine ⟨F', σ', τ', a, ?_⟩
      rw [← b]
      simp (implicitDefEqProofs := false) (disch := omega) only [mL_law_83, f0, ↓bnd_e, ↓ob_s, ob_s, su_1, su_2, sl_1, sl_2, ↓ck_n, ck_n, ck_Z0, ck_Z1, c_lt, c_le, c_eq, ng_1, m_ne, m_en, m_lt, m_le, m_gt, m_ge, n_add, n_mul, n_sub, n_sm, n_pm, n_0m, n_cl, Nat.reduceEqDiff, ↓reduceIte, nle_T, nle_F, nlt_T, nlt_F, neq_F, neq_T, if_true, if_false, true_and, and_true, Nat.mul_zero, Nat.zero_add, Nat.add_zero, Nat.reduceAdd, Nat.reduceMul, Nat.reduceSub, li_0, li_1, li_2, li_3, li_4, li_5, li_6, li_7, li_8, li_9, li_10, li_11, li_12, li_13, li_14, li_15, li_16, li_20, li_24, li_28, li_31, li_35, li_38, li_40, li_41, li_45, li_48, li_60, li_62, li_63, li_97, li_100, li_104, li_105, li_120, li_124, li_127, li_180, li_239, li_240, li_255, li_256, li_300, li_400, li_960, li_1000000]
    · obtain ⟨g, hg, eg⟩ := bw σ (x >>> (7 &&& 31)) (N := F) (by omega) (by omega)
      obtain ⟨F', σ', τ', a, b⟩ := mk_100 (p := p) (q := g) xs L h hk hs hp1 (fun e => ⟨hp2 e, hg⟩) kh
      refine ⟨F', σ', τ', a, ?_⟩
      rw [← b]
      unfold mL_law_83
      rw [if_neg (nI_ne0 (by omega) (by omega)), eg, ob_s]
  by_cases k2 : 2 ≤ k
  · have hF1 := h.2.2.2.1 (by omega)
    obtain ⟨p, hp, ep⟩ := bw σ (x >>> (3 &&& 31)) (N := F) (by omega) (by omega)
    obtain ⟨F', σ', τ', a, b⟩ := go p (fun e => by have := h3 k2; omega) (fun _ => hp)
    refine ⟨F', σ', τ', a, ?_⟩
    rw [← b]
    unfold mL_law_53
    rw [if_pos (show (2 : Int32) ≤ nI k from nI_le (a := 2) k2 (by omega)), if_neg (nI_ne0 (by omega) (by omega)), ep, ob_s]
  · obtain ⟨F', σ', τ', a, b⟩ := go k (fun _ => by omega) (fun e => absurd (h2 (by omega)) e)
    refine ⟨F', σ', τ', a, ?_⟩
    rw [← b]
    unfold mL_law_53
    rw [if_neg (show ¬ (2 : Int32) ≤ nI k from nI_ge (b := 2) (by omega) (by omega))]
theorem mk_loop (xs : Nat → Int32) (L : Nat) : ∀ d k n F (σ τ : St), k + d = 14 → d < n → MI k F σ τ → ∃ F' σ' τ', MI 14 F' σ' τ' ∧ mL_law_12 xs L n σ (nI F) (nI k) = mL_law_116 xs L σ' (nI F') := by
  intro d
  induction d with
  | zero =>
    intro k n F σ τ hk hn h
    obtain ⟨n, rfl⟩ : ∃ m, n = m + 1 := ⟨n - 1, by omega⟩
    have : k = 14 := by omega
    subst this
    exact ⟨F, σ, τ, h, rfl⟩
  | succ d ih =>
    intro k n F σ τ hk hn h
    obtain ⟨n, rfl⟩ : ∃ m, n = m + 1 := ⟨n - 1, by omega⟩
    obtain ⟨r, er⟩ := cell_t xs L (i := k % 7) (by omega)
    have e7 : nI k - nI k / 7 * 7 = nI (k % 7) := pk_rem (d := 7) (by omega) (by omega) (by omega)
    have key : ∃ s, s ≤ 5 ∧ (k < 2 → s = 0) ∧ (2 ≤ k → 1 ≤ s) ∧ ∃ x, mL_law_12 xs L (n + 1) σ (nI F) (nI k) = mL_law_53 xs L (mL_law_12 xs L n) σ (nI F) (nI k) x (nI s) := by
      by_cases k2 : 2 ≤ k
      · obtain ⟨j, hj, ej⟩ := bw σ (r >>> (((nI k / 7) * 11) &&& 31)) (N := 5) (by omega) (by omega)
        have ej' : mL_below σ (r >>> (((nI k / 7) * 11) &&& 31)) 5 = some (nI j) := ej
        refine ⟨1 + j, by omega, fun h => by omega, fun _ => by omega, r >>> (((nI k / 7) * 11) &&& 31), ?_⟩
        show bL_law_12 xs L (mL_law_12 xs L n) σ (nI F) (nI k) = _
        unfold bL_law_12
        rw [if_neg (show ¬ (14 : Int32) ≤ nI k from nI_ge (b := 14) (by omega) (by omega)), e7, er, ob_s, bnd_e, if_pos (show (2 : Int32) ≤ nI k from nI_le (a := 2) k2 (by omega)), ej', ob_s]
        have e1 : (1 : Int32) + nI j = nI (1 + j) := nI_add 1 j
        rw [e1]
      · refine ⟨0, by omega, fun _ => rfl, fun h => absurd h k2, r >>> (((nI k / 7) * 11) &&& 31), ?_⟩
        show bL_law_12 xs L (mL_law_12 xs L n) σ (nI F) (nI k) = _
        unfold bL_law_12
        rw [if_neg (show ¬ (14 : Int32) ≤ nI k from nI_ge (b := 14) (by omega) (by omega)), e7, er, ob_s, bnd_e, if_neg (show ¬ (2 : Int32) ≤ nI k from nI_ge (b := 2) (by omega) (by omega))]
        rfl
    obtain ⟨s, s1, s2, s3, x, ex⟩ := key
    obtain ⟨F', σ', τ', a, b⟩ := mk_53 xs L h (by omega) s1 s2 s3 x (mL_law_12 xs L n)
    obtain ⟨F'', σ'', τ'', c, e⟩ := ih (k + 1) n F' σ' τ' (by omega) (by omega) a
    exact ⟨F'', σ'', τ'', c, ex.trans (b.trans e)⟩
theorem MI_0 : MI 0 0 σ0 τ0 := by
  obtain ⟨F, T, hf, _⟩ := RR_0
  exact ⟨⟨⟨by omega, rfl, rfl⟩, fun j hj => absurd hj (by omega), fun i j hi => absurd hi (by omega)⟩, fun j hj => absurd hj (by omega), by omega, fun h => by omega, KE.rf, KE.rf⟩
/-- behind the formulas: a proof without lines -/
theorem MI.qv {k F : Nat} {σ τ : St} (h : MI k F σ τ) : QV F 0 0 0 0 0 σ τ := by
  obtain ⟨h1, h2, h3, h4, h5, h6⟩ := h
  have ht : RT σ0 τ0 := ⟨⟨0, by omega, rfl, rfl⟩, rfl, fun k => ⟨0, by omega, rfl, rfl⟩⟩
  have hp : RP σ0 τ0 := ⟨0, by omega, rfl, rfl, fun k hk => absurd hk (by omega)⟩
  have hh : RH 0 0 σ0 τ0 := ⟨⟨by omega, rfl, rfl⟩, ⟨rfl, rfl, rfl, rfl⟩, fun t ht => absurd ht (by omega)⟩
  have hv : RX 0 0 0 0 0 0 σ0 τ0 := ⟨⟨rfl, rfl, rfl, rfl, rfl, rfl, rfl, rfl⟩, ⟨rfl, rfl, rfl, rfl, rfl, rfl, rfl⟩, fun i hi => absurd hi (by omega), fun k hk => absurd hk (by omega), rfl, rfl, rfl, rfl⟩
  exact ⟨h1, ht.c (.k h5 (by decide)) (.k h6 (by decide)), hp.c (.k h5 (by decide)) (.k h6 (by decide)), hh.c (by omega) (.k h5 (by decide)) (.k h6 (by decide)), hv.c (by omega) (by omega) (.k h5 (by decide)) (.k h6 (by decide))⟩
