theorem RR_num {F T F' : Nat} {σ τ σ' τ' : St} (ht : RT σ τ) (hp : RP σ τ) (hh : RH F T σ τ) (hv : RV F T σ τ) (hF : F ≤ F') (hf' : RF F' σ' τ') (kσ : KE kF σ σ') (kτ : KE (0 :: kM) τ τ') : RR σ' τ' :=
  ⟨F', T, hf', ht.c (.k kσ (by decide)) (.k kτ (by decide)), hp.c (.k kσ (by decide)) (.k kτ (by decide)), hh.c hF (.k kσ (by decide)) (.k kτ (by decide)), hv.c hh.1.1 hF (.k kσ (by decide)) (.k kτ (by decide))⟩
theorem make_good {F T : Nat} {σ τ : St} {p1 p2 p3 : Int32} (hf : RF F σ τ) (ht : RT σ τ) (hp : RP σ τ) (hh : RH F T σ τ) (hv : RV F T σ τ) (s : Nat) (x y : Int32) : p1 = nI s → s ≤ 5 → AG F s x y → CG s x y p2 p3 → mX1_hasParts σ p1 p2 p3 = some (nI 1) → (s = 0 → ∃ l, l < 8 ∧ p2 = nI l) →
      mX8_make τ p1 p2 p3 = mX8_make_88 (su τ 0 (fun _ => nI 0)) y x (nI s) →
      (∃ (r : Int32) (σ' : St) (τ' : St), mX7_make σ p1 p2 p3 = some (r, σ') ∧ mX8_make τ p1 p2 p3 = some (r, τ') ∧ τ'.1 0 0 = 0 ∧ RR σ' τ') ∨ (∃ (v : Int32) (σ' : St) (τ' : St), tX7_make σ p1 p2 p3 = some (1, σ') ∧ mX8_make τ p1 p2 p3 = some (v, τ') ∧ τ'.1 0 0 = 3 ∧ RR σ' τ') := by
  have hF := hf.le
  have h0 := hf.1.2.1
  have h5 := hf.1.2.2
  have hf' : RF F σ (su τ 0 (fun _ => nI 0)) := hf.c (fun _ _ => rfl) rfl (.k (KE.rf.s (l := [0]) (by decide)) (by decide))
  intro e1 hs ha hc hp1 hl em
  subst e1
  obtain ⟨r, σ', τ', F', n1, n8, nR, nF, _, _, nk1, nk8, nr⟩ := num_rel hf' ha hc
  have kτ : KE (0 :: kM) τ τ' := (KE.rf.s (l := 0 :: kM) (by decide)).tr (nk8.wk (by decide))
  have hRR := RR_num ht hp hh hv nF nR nk1 kτ
  have t0 : τ'.1 0 0 = nI 0 := by rw [nk8 0 (by decide)]; rfl
  rcases nr with rfl | ⟨k, hk, rfl⟩
  · refine Or.inr ⟨nI 0, σ', su τ' 0 (fun _ => nI 3), ?_, ?_, rfl, RR_thr hRR _⟩
    · by_cases hs0 : s = 0
      · obtain ⟨l, hl1, rfl⟩ := hl hs0
        subst hs0
        simp (implicitDefEqProofs := false) (disch := omega) only [tX7_make, hp1, n1, ↓bnd_e, ↓ob_s, ob_s, su_1, su_2, sl_1, sl_2, ↓ck_n, ck_n, ck_Z0, ck_Z1, c_lt, c_le, c_eq, ng_1, m_ne, m_en, m_lt, m_le, m_gt, m_ge, n_add, n_mul, n_sub, n_sm, n_pm, n_0m, n_cl, Nat.reduceEqDiff, ↓reduceIte, nle_T, nle_F, nlt_T, nlt_F, neq_F, neq_T, if_true, if_false, true_and, and_true, Nat.mul_zero, Nat.zero_add, Nat.add_zero, Nat.reduceAdd, Nat.reduceMul, Nat.reduceSub, li_0, li_1, li_2, li_3, li_4, li_5, li_6, li_7, li_8, li_9, li_10, li_11, li_12, li_13, li_14, li_15, li_16, li_20, li_24, li_28, li_31, li_35, li_38, li_40, li_41, li_45, li_48, li_60, li_62, li_63, li_97, li_100, li_104, li_105, li_120, li_124, li_127, li_180, li_239, li_240, li_255, li_256, li_300, li_400, li_960, li_1000000]
      · have q : ¬ nI s = nI 0 := by rw [c_eq (by omega) (by omega)]; exact hs0
        simp (implicitDefEqProofs := false) (disch := omega) only [tX7_make, hp1, n1, hs0, q, ↓bnd_e, ↓ob_s, ob_s, su_1, su_2, sl_1, sl_2, ↓ck_n, ck_n, ck_Z0, ck_Z1, c_lt, c_le, c_eq, ng_1, m_ne, m_en, m_lt, m_le, m_gt, m_ge, n_add, n_mul, n_sub, n_sm, n_pm, n_0m, n_cl, Nat.reduceEqDiff, ↓reduceIte, nle_T, nle_F, nlt_T, nlt_F, neq_F, neq_T, if_true, if_false, true_and, and_true, Nat.mul_zero, Nat.zero_add, Nat.add_zero, Nat.reduceAdd, Nat.reduceMul, Nat.reduceSub, li_0, li_1, li_2, li_3, li_4, li_5, li_6, li_7, li_8, li_9, li_10, li_11, li_12, li_13, li_14, li_15, li_16, li_20, li_24, li_28, li_31, li_35, li_38, li_40, li_41, li_45, li_48, li_60, li_62, li_63, li_97, li_100, li_104, li_105, li_120, li_124, li_127, li_180, li_239, li_240, li_255, li_256, li_300, li_400, li_960, li_1000000]
    · rw [em]
      simp (implicitDefEqProofs := false) (disch := omega) only [mX8_make_88, n8, mX8_no, ↓bnd_e, ↓ob_s, ob_s, su_1, su_2, sl_1, sl_2, ↓ck_n, ck_n, ck_Z0, ck_Z1, c_lt, c_le, c_eq, ng_1, m_ne, m_en, m_lt, m_le, m_gt, m_ge, n_add, n_mul, n_sub, n_sm, n_pm, n_0m, n_cl, Nat.reduceEqDiff, ↓reduceIte, nle_T, nle_F, nlt_T, nlt_F, neq_F, neq_T, if_true, if_false, true_and, and_true, Nat.mul_zero, Nat.zero_add, Nat.add_zero, Nat.reduceAdd, Nat.reduceMul, Nat.reduceSub, li_0, li_1, li_2, li_3, li_4, li_5, li_6, li_7, li_8, li_9, li_10, li_11, li_12, li_13, li_14, li_15, li_16, li_20, li_24, li_28, li_31, li_35, li_38, li_40, li_41, li_45, li_48, li_60, li_62, li_63, li_97, li_100, li_104, li_105, li_120, li_124, li_127, li_180, li_239, li_240, li_255, li_256, li_300, li_400, li_960, li_1000000]
  · have hF' := nR.le
    refine Or.inl ⟨nI k, σ', τ', ?_, ?_, t0, hRR⟩
    · by_cases hs0 : s = 0
      · obtain ⟨l, hl1, rfl⟩ := hl hs0
        subst hs0
        simp (implicitDefEqProofs := false) (disch := omega) only [mX7_make, mX7_make_43, hp1, n1, ↓bnd_e, ↓ob_s, ob_s, su_1, su_2, sl_1, sl_2, ↓ck_n, ck_n, ck_Z0, ck_Z1, c_lt, c_le, c_eq, ng_1, m_ne, m_en, m_lt, m_le, m_gt, m_ge, n_add, n_mul, n_sub, n_sm, n_pm, n_0m, n_cl, Nat.reduceEqDiff, ↓reduceIte, nle_T, nle_F, nlt_T, nlt_F, neq_F, neq_T, if_true, if_false, true_and, and_true, Nat.mul_zero, Nat.zero_add, Nat.add_zero, Nat.reduceAdd, Nat.reduceMul, Nat.reduceSub, li_0, li_1, li_2, li_3, li_4, li_5, li_6, li_7, li_8, li_9, li_10, li_11, li_12, li_13, li_14, li_15, li_16, li_20, li_24, li_28, li_31, li_35, li_38, li_40, li_41, li_45, li_48, li_60, li_62, li_63, li_97, li_100, li_104, li_105, li_120, li_124, li_127, li_180, li_239, li_240, li_255, li_256, li_300, li_400, li_960, li_1000000]
      · have q : ¬ nI s = nI 0 := by rw [c_eq (by omega) (by omega)]; exact hs0
        simp (implicitDefEqProofs := false) (disch := omega) only [mX7_make, mX7_make_43, hp1, n1, hs0, q, ↓bnd_e, ↓ob_s, ob_s, su_1, su_2, sl_1, sl_2, ↓ck_n, ck_n, ck_Z0, ck_Z1, c_lt, c_le, c_eq, ng_1, m_ne, m_en, m_lt, m_le, m_gt, m_ge, n_add, n_mul, n_sub, n_sm, n_pm, n_0m, n_cl, Nat.reduceEqDiff, ↓reduceIte, nle_T, nle_F, nlt_T, nlt_F, neq_F, neq_T, if_true, if_false, true_and, and_true, Nat.mul_zero, Nat.zero_add, Nat.add_zero, Nat.reduceAdd, Nat.reduceMul, Nat.reduceSub, li_0, li_1, li_2, li_3, li_4, li_5, li_6, li_7, li_8, li_9, li_10, li_11, li_12, li_13, li_14, li_15, li_16, li_20, li_24, li_28, li_31, li_35, li_38, li_40, li_41, li_45, li_48, li_60, li_62, li_63, li_97, li_100, li_104, li_105, li_120, li_124, li_127, li_180, li_239, li_240, li_255, li_256, li_300, li_400, li_960, li_1000000]
    · rw [em]
      simp (implicitDefEqProofs := false) (disch := omega) only [mX8_make_88, n8, ↓bnd_e, ↓ob_s, ob_s, su_1, su_2, sl_1, sl_2, ↓ck_n, ck_n, ck_Z0, ck_Z1, c_lt, c_le, c_eq, ng_1, m_ne, m_en, m_lt, m_le, m_gt, m_ge, n_add, n_mul, n_sub, n_sm, n_pm, n_0m, n_cl, Nat.reduceEqDiff, ↓reduceIte, nle_T, nle_F, nlt_T, nlt_F, neq_F, neq_T, if_true, if_false, true_and, and_true, Nat.mul_zero, Nat.zero_add, Nat.add_zero, Nat.reduceAdd, Nat.reduceMul, Nat.reduceSub, li_0, li_1, li_2, li_3, li_4, li_5, li_6, li_7, li_8, li_9, li_10, li_11, li_12, li_13, li_14, li_15, li_16, li_20, li_24, li_28, li_31, li_35, li_38, li_40, li_41, li_45, li_48, li_60, li_62, li_63, li_97, li_100, li_104, li_105, li_120, li_124, li_127, li_180, li_239, li_240, li_255, li_256, li_300, li_400, li_960, li_1000000]
set_option maxRecDepth 100000 in
theorem P_make {σ τ : St} (h : RR σ τ) (p1 p2 p3 : Int32) : (∃ (r : Int32) (σ' : St) (τ' : St), mX7_make σ p1 p2 p3 = some (r, σ') ∧ mX8_make τ p1 p2 p3 = some (r, τ') ∧ τ'.1 0 0 = 0 ∧ RR σ' τ') ∨ (∃ (v : Int32) (σ' : St) (τ' : St), tX7_make σ p1 p2 p3 = some (2, σ') ∧ mX8_make τ p1 p2 p3 = some (v, τ') ∧ τ'.1 0 0 = 1 ∧ RR σ' τ') ∨ (∃ (v : Int32) (σ' : St) (τ' : St), tX7_make σ p1 p2 p3 = some (3, σ') ∧ mX8_make τ p1 p2 p3 = some (v, τ') ∧ τ'.1 0 0 = 2 ∧ RR σ' τ') ∨ (∃ (v : Int32) (σ' : St) (τ' : St), tX7_make σ p1 p2 p3 = some (1, σ') ∧ mX8_make τ p1 p2 p3 = some (v, τ') ∧ τ'.1 0 0 = 3 ∧ RR σ' τ') := by
  have hR2 := fun v w => RR_thr (RR_thr h v) w
  obtain ⟨F, T, hf, ht, hp, hh, hv⟩ := h
  have hF := hf.le
  have h0 := hf.1.2.1
  have h5 := hf.1.2.2
  have hf' : RF F σ (su τ 0 (fun _ => nI 0)) := hf.c (fun _ _ => rfl) rfl (.k (KE.rf.s (l := [0]) (by decide)) (by decide))
  have good := make_good (p1 := p1) (p2 := p2) (p3 := p3) hf ht hp hh hv
  have wrap : ∀ {A B C D : Prop}, A ∨ D → A ∨ B ∨ C ∨ D := fun h => h.elim Or.inl (fun h => Or.inr (Or.inr (Or.inr h)))
  have t0 : (su τ 0 (fun _ => nI 0)).1 5 0 = nI F := h5
  rcases x8_in p1 5 (by omega) with ⟨s, hs, rfl, i1⟩ | ⟨i0, hx, i2⟩
  · have hs6 : s = 0 ∨ s = 1 ∨ s = 2 ∨ 3 ≤ s := by omega
    rcases hs6 with rfl | rfl | rfl | hs3
    · rcases x8_in p2 7 (by omega) with ⟨l, hl, rfl, j1⟩ | ⟨j0, jx, j2⟩
      · refine wrap (good 0 (nI l) mI rfl hs (Or.inl ⟨rfl, l, by omega, rfl, rfl⟩) (Or.inl ⟨rfl, rfl⟩) ?_ (fun _ => ⟨l, by omega, rfl⟩) ?_)
        · simp (implicitDefEqProofs := false) (disch := omega) only [mX1_hasParts, ↓bnd_e, ↓ob_s, ob_s, su_1, su_2, sl_1, sl_2, ↓ck_n, ck_n, ck_Z0, ck_Z1, c_lt, c_le, c_eq, ng_1, m_ne, m_en, m_lt, m_le, m_gt, m_ge, n_add, n_mul, n_sub, n_sm, n_pm, n_0m, n_cl, Nat.reduceEqDiff, ↓reduceIte, nle_T, nle_F, nlt_T, nlt_F, neq_F, neq_T, if_true, if_false, true_and, and_true, Nat.mul_zero, Nat.zero_add, Nat.add_zero, Nat.reduceAdd, Nat.reduceMul, Nat.reduceSub, li_0, li_1, li_2, li_3, li_4, li_5, li_6, li_7, li_8, li_9, li_10, li_11, li_12, li_13, li_14, li_15, li_16, li_20, li_24, li_28, li_31, li_35, li_38, li_40, li_41, li_45, li_48, li_60, li_62, li_63, li_97, li_100, li_104, li_105, li_120, li_124, li_127, li_180, li_239, li_240, li_255, li_256, li_300, li_400, li_960, li_1000000]
        · simp (implicitDefEqProofs := false) (disch := omega) only [mX8_make, mX8_make_34, mX8_make_47, mX8_make_66, mX8_make_78, i1, j1, ↓bnd_e, ↓ob_s, ob_s, su_1, su_2, sl_1, sl_2, ↓ck_n, ck_n, ck_Z0, ck_Z1, c_lt, c_le, c_eq, ng_1, m_ne, m_en, m_lt, m_le, m_gt, m_ge, n_add, n_mul, n_sub, n_sm, n_pm, n_0m, n_cl, Nat.reduceEqDiff, ↓reduceIte, nle_T, nle_F, nlt_T, nlt_F, neq_F, neq_T, if_true, if_false, true_and, and_true, Nat.mul_zero, Nat.zero_add, Nat.add_zero, Nat.reduceAdd, Nat.reduceMul, Nat.reduceSub, li_0, li_1, li_2, li_3, li_4, li_5, li_6, li_7, li_8, li_9, li_10, li_11, li_12, li_13, li_14, li_15, li_16, li_20, li_24, li_28, li_31, li_35, li_38, li_40, li_41, li_45, li_48, li_60, li_62, li_63, li_97, li_100, li_104, li_105, li_120, li_124, li_127, li_180, li_239, li_240, li_255, li_256, li_300, li_400, li_960, li_1000000]
      · refine Or.inr (Or.inl ⟨nI 0, σ, su (su τ 0 (fun _ => nI 0)) 0 (fun _ => nI 1), ?_, ?_, rfl, hR2 _ _⟩)
        · rcases ix3 p2 8 (by omega) with ⟨h, h'⟩ | ⟨h, h', _, h2, h3⟩ | ⟨j, hj, rfl⟩
          · simp (implicitDefEqProofs := false) (disch := omega) only [tX7_make, h, ↓bnd_e, ↓ob_s, ob_s, su_1, su_2, sl_1, sl_2, ↓ck_n, ck_n, ck_Z0, ck_Z1, c_lt, c_le, c_eq, ng_1, m_ne, m_en, m_lt, m_le, m_gt, m_ge, n_add, n_mul, n_sub, n_sm, n_pm, n_0m, n_cl, Nat.reduceEqDiff, ↓reduceIte, nle_T, nle_F, nlt_T, nlt_F, neq_F, neq_T, if_true, if_false, true_and, and_true, Nat.mul_zero, Nat.zero_add, Nat.add_zero, Nat.reduceAdd, Nat.reduceMul, Nat.reduceSub, li_0, li_1, li_2, li_3, li_4, li_5, li_6, li_7, li_8, li_9, li_10, li_11, li_12, li_13, li_14, li_15, li_16, li_20, li_24, li_28, li_31, li_35, li_38, li_40, li_41, li_45, li_48, li_60, li_62, li_63, li_97, li_100, li_104, li_105, li_120, li_124, li_127, li_180, li_239, li_240, li_255, li_256, li_300, li_400, li_960, li_1000000]
          · have := (h3 8 (by omega)).2
            simp (implicitDefEqProofs := false) (disch := omega) only [tX7_make, h, this, ↓bnd_e, ↓ob_s, ob_s, su_1, su_2, sl_1, sl_2, ↓ck_n, ck_n, ck_Z0, ck_Z1, c_lt, c_le, c_eq, ng_1, m_ne, m_en, m_lt, m_le, m_gt, m_ge, n_add, n_mul, n_sub, n_sm, n_pm, n_0m, n_cl, Nat.reduceEqDiff, ↓reduceIte, nle_T, nle_F, nlt_T, nlt_F, neq_F, neq_T, if_true, if_false, true_and, and_true, Nat.mul_zero, Nat.zero_add, Nat.add_zero, Nat.reduceAdd, Nat.reduceMul, Nat.reduceSub, li_0, li_1, li_2, li_3, li_4, li_5, li_6, li_7, li_8, li_9, li_10, li_11, li_12, li_13, li_14, li_15, li_16, li_20, li_24, li_28, li_31, li_35, li_38, li_40, li_41, li_45, li_48, li_60, li_62, li_63, li_97, li_100, li_104, li_105, li_120, li_124, li_127, li_180, li_239, li_240, li_255, li_256, li_300, li_400, li_960, li_1000000]
          · exact (jx ⟨j, by omega, rfl⟩).elim
        · simp (implicitDefEqProofs := false) (disch := omega) only [mX8_make, mX8_make_28, mX8_no, i1, j2, ↓bnd_e, ↓ob_s, ob_s, su_1, su_2, sl_1, sl_2, ↓ck_n, ck_n, ck_Z0, ck_Z1, c_lt, c_le, c_eq, ng_1, m_ne, m_en, m_lt, m_le, m_gt, m_ge, n_add, n_mul, n_sub, n_sm, n_pm, n_0m, n_cl, Nat.reduceEqDiff, ↓reduceIte, nle_T, nle_F, nlt_T, nlt_F, neq_F, neq_T, if_true, if_false, true_and, and_true, Nat.mul_zero, Nat.zero_add, Nat.add_zero, Nat.reduceAdd, Nat.reduceMul, Nat.reduceSub, li_0, li_1, li_2, li_3, li_4, li_5, li_6, li_7, li_8, li_9, li_10, li_11, li_12, li_13, li_14, li_15, li_16, li_20, li_24, li_28, li_31, li_35, li_38, li_40, li_41, li_45, li_48, li_60, li_62, li_63, li_97, li_100, li_104, li_105, li_120, li_124, li_127, li_180, li_239, li_240, li_255, li_256, li_300, li_400, li_960, li_1000000]
    · refine wrap (good 1 mI mI rfl hs (Or.inr (Or.inl ⟨rfl, rfl, rfl⟩)) (Or.inr (Or.inl rfl)) ?_ (fun h => absurd h (by decide)) ?_)
      · simp (implicitDefEqProofs := false) (disch := omega) only [mX1_hasParts, ↓bnd_e, ↓ob_s, ob_s, su_1, su_2, sl_1, sl_2, ↓ck_n, ck_n, ck_Z0, ck_Z1, c_lt, c_le, c_eq, ng_1, m_ne, m_en, m_lt, m_le, m_gt, m_ge, n_add, n_mul, n_sub, n_sm, n_pm, n_0m, n_cl, Nat.reduceEqDiff, ↓reduceIte, nle_T, nle_F, nlt_T, nlt_F, neq_F, neq_T, if_true, if_false, true_and, and_true, Nat.mul_zero, Nat.zero_add, Nat.add_zero, Nat.reduceAdd, Nat.reduceMul, Nat.reduceSub, li_0, li_1, li_2, li_3, li_4, li_5, li_6, li_7, li_8, li_9, li_10, li_11, li_12, li_13, li_14, li_15, li_16, li_20, li_24, li_28, li_31, li_35, li_38, li_40, li_41, li_45, li_48, li_60, li_62, li_63, li_97, li_100, li_104, li_105, li_120, li_124, li_127, li_180, li_239, li_240, li_255, li_256, li_300, li_400, li_960, li_1000000]
      · simp (implicitDefEqProofs := false) (disch := omega) only [mX8_make, mX8_make_34, mX8_make_47, mX8_make_66, mX8_make_78, i1, ↓bnd_e, ↓ob_s, ob_s, su_1, su_2, sl_1, sl_2, ↓ck_n, ck_n, ck_Z0, ck_Z1, c_lt, c_le, c_eq, ng_1, m_ne, m_en, m_lt, m_le, m_gt, m_ge, n_add, n_mul, n_sub, n_sm, n_pm, n_0m, n_cl, Nat.reduceEqDiff, ↓reduceIte, nle_T, nle_F, nlt_T, nlt_F, neq_F, neq_T, if_true, if_false, true_and, and_true, Nat.mul_zero, Nat.zero_add, Nat.add_zero, Nat.reduceAdd, Nat.reduceMul, Nat.reduceSub, li_0, li_1, li_2, li_3, li_4, li_5, li_6, li_7, li_8, li_9, li_10, li_11, li_12, li_13, li_14, li_15, li_16, li_20, li_24, li_28, li_31, li_35, li_38, li_40, li_41, li_45, li_48, li_60, li_62, li_63, li_97, li_100, li_104, li_105, li_120, li_124, li_127, li_180, li_239, li_240, li_255, li_256, li_300, li_400, li_960, li_1000000]
    · rcases kn_rel hf p2 with ⟨j, hj, rfl, k1, k8⟩ | ⟨k1, k8⟩
      · have k8' := k8 _ t0
        refine wrap (good 2 (nI j) mI rfl hs (Or.inr (Or.inr (Or.inl ⟨rfl, j, hj, rfl, rfl⟩))) (Or.inr (Or.inr (Or.inl ⟨rfl, rfl⟩))) ?_ (fun h => absurd h (by decide)) ?_)
        · simp (implicitDefEqProofs := false) (disch := omega) only [mX1_hasParts, k1, ↓bnd_e, ↓ob_s, ob_s, su_1, su_2, sl_1, sl_2, ↓ck_n, ck_n, ck_Z0, ck_Z1, c_lt, c_le, c_eq, ng_1, m_ne, m_en, m_lt, m_le, m_gt, m_ge, n_add, n_mul, n_sub, n_sm, n_pm, n_0m, n_cl, Nat.reduceEqDiff, ↓reduceIte, nle_T, nle_F, nlt_T, nlt_F, neq_F, neq_T, if_true, if_false, true_and, and_true, Nat.mul_zero, Nat.zero_add, Nat.add_zero, Nat.reduceAdd, Nat.reduceMul, Nat.reduceSub, li_0, li_1, li_2, li_3, li_4, li_5, li_6, li_7, li_8, li_9, li_10, li_11, li_12, li_13, li_14, li_15, li_16, li_20, li_24, li_28, li_31, li_35, li_38, li_40, li_41, li_45, li_48, li_60, li_62, li_63, li_97, li_100, li_104, li_105, li_120, li_124, li_127, li_180, li_239, li_240, li_255, li_256, li_300, li_400, li_960, li_1000000]
        · simp (implicitDefEqProofs := false) (disch := omega) only [mX8_make, mX8_make_34, mX8_make_47, mX8_make_66, mX8_make_78, i1, k8', ↓bnd_e, ↓ob_s, ob_s, su_1, su_2, sl_1, sl_2, ↓ck_n, ck_n, ck_Z0, ck_Z1, c_lt, c_le, c_eq, ng_1, m_ne, m_en, m_lt, m_le, m_gt, m_ge, n_add, n_mul, n_sub, n_sm, n_pm, n_0m, n_cl, Nat.reduceEqDiff, ↓reduceIte, nle_T, nle_F, nlt_T, nlt_F, neq_F, neq_T, if_true, if_false, true_and, and_true, Nat.mul_zero, Nat.zero_add, Nat.add_zero, Nat.reduceAdd, Nat.reduceMul, Nat.reduceSub, li_0, li_1, li_2, li_3, li_4, li_5, li_6, li_7, li_8, li_9, li_10, li_11, li_12, li_13, li_14, li_15, li_16, li_20, li_24, li_28, li_31, li_35, li_38, li_40, li_41, li_45, li_48, li_60, li_62, li_63, li_97, li_100, li_104, li_105, li_120, li_124, li_127, li_180, li_239, li_240, li_255, li_256, li_300, li_400, li_960, li_1000000]
      · have k8' := k8 _ t0
        refine Or.inr (Or.inr (Or.inl ⟨nI 0, σ, su (su τ 0 (fun _ => nI 0)) 0 (fun _ => nI 2), ?_, ?_, rfl, hR2 _ _⟩))
        · simp (implicitDefEqProofs := false) (disch := omega) only [tX7_make, mX1_hasParts, k1, ↓bnd_e, ↓ob_s, ob_s, su_1, su_2, sl_1, sl_2, ↓ck_n, ck_n, ck_Z0, ck_Z1, c_lt, c_le, c_eq, ng_1, m_ne, m_en, m_lt, m_le, m_gt, m_ge, n_add, n_mul, n_sub, n_sm, n_pm, n_0m, n_cl, Nat.reduceEqDiff, ↓reduceIte, nle_T, nle_F, nlt_T, nlt_F, neq_F, neq_T, if_true, if_false, true_and, and_true, Nat.mul_zero, Nat.zero_add, Nat.add_zero, Nat.reduceAdd, Nat.reduceMul, Nat.reduceSub, li_0, li_1, li_2, li_3, li_4, li_5, li_6, li_7, li_8, li_9, li_10, li_11, li_12, li_13, li_14, li_15, li_16, li_20, li_24, li_28, li_31, li_35, li_38, li_40, li_41, li_45, li_48, li_60, li_62, li_63, li_97, li_100, li_104, li_105, li_120, li_124, li_127, li_180, li_239, li_240, li_255, li_256, li_300, li_400, li_960, li_1000000]
        · simp (implicitDefEqProofs := false) (disch := omega) only [mX8_make, mX8_make_34, mX8_make_60, mX8_no, i1, k8', ↓bnd_e, ↓ob_s, ob_s, su_1, su_2, sl_1, sl_2, ↓ck_n, ck_n, ck_Z0, ck_Z1, c_lt, c_le, c_eq, ng_1, m_ne, m_en, m_lt, m_le, m_gt, m_ge, n_add, n_mul, n_sub, n_sm, n_pm, n_0m, n_cl, Nat.reduceEqDiff, ↓reduceIte, nle_T, nle_F, nlt_T, nlt_F, neq_F, neq_T, if_true, if_false, true_and, and_true, Nat.mul_zero, Nat.zero_add, Nat.add_zero, Nat.reduceAdd, Nat.reduceMul, Nat.reduceSub, li_0, li_1, li_2, li_3, li_4, li_5, li_6, li_7, li_8, li_9, li_10, li_11, li_12, li_13, li_14, li_15, li_16, li_20, li_24, li_28, li_31, li_35, li_38, li_40, li_41, li_45, li_48, li_60, li_62, li_63, li_97, li_100, li_104, li_105, li_120, li_124, li_127, li_180, li_239, li_240, li_255, li_256, li_300, li_400, li_960, li_1000000]
    · have s0 : ¬ nI s = nI 0 := by rw [c_eq (by omega) (by omega)]; omega
      have s1 : ¬ nI s = nI 1 := by rw [c_eq (by omega) (by omega)]; omega
      have s2 : ¬ nI s = nI 2 := by rw [c_eq (by omega) (by omega)]; omega
      rcases kn_rel hf p2 with ⟨j, hj, rfl, k1, k8⟩ | ⟨k1, k8⟩
      · have k8' := k8 _ t0
        rcases kn_rel hf p3 with ⟨i, hi, rfl, l1, l8⟩ | ⟨l1, l8⟩
        · have l8' := l8 _ t0
          refine wrap (good s (nI j) (nI i) rfl hs (Or.inr (Or.inr (Or.inr ⟨hs3, hs, j, i, hj, hi, rfl, rfl⟩))) (Or.inr (Or.inr (Or.inr ⟨hs3, rfl, rfl⟩))) ?_ (fun h => absurd h (by omega)) ?_)
          · simp (implicitDefEqProofs := false) (disch := omega) only [mX1_hasParts, k1, l1, ↓bnd_e, ↓ob_s, ob_s, su_1, su_2, sl_1, sl_2, ↓ck_n, ck_n, ck_Z0, ck_Z1, c_lt, c_le, c_eq, ng_1, m_ne, m_en, m_lt, m_le, m_gt, m_ge, n_add, n_mul, n_sub, n_sm, n_pm, n_0m, n_cl, Nat.reduceEqDiff, ↓reduceIte, nle_T, nle_F, nlt_T, nlt_F, neq_F, neq_T, if_true, if_false, true_and, and_true, Nat.mul_zero, Nat.zero_add, Nat.add_zero, Nat.reduceAdd, Nat.reduceMul, Nat.reduceSub, li_0, li_1, li_2, li_3, li_4, li_5, li_6, li_7, li_8, li_9, li_10, li_11, li_12, li_13, li_14, li_15, li_16, li_20, li_24, li_28, li_31, li_35, li_38, li_40, li_41, li_45, li_48, li_60, li_62, li_63, li_97, li_100, li_104, li_105, li_120, li_124, li_127, li_180, li_239, li_240, li_255, li_256, li_300, li_400, li_960, li_1000000]
          · simp (implicitDefEqProofs := false) (disch := omega) only [mX8_make, mX8_make_34, mX8_make_47, mX8_make_66, mX8_make_78, i1, k8', l8', ↓bnd_e, ↓ob_s, ob_s, su_1, su_2, sl_1, sl_2, ↓ck_n, ck_n, ck_Z0, ck_Z1, c_lt, c_le, c_eq, ng_1, m_ne, m_en, m_lt, m_le, m_gt, m_ge, n_add, n_mul, n_sub, n_sm, n_pm, n_0m, n_cl, Nat.reduceEqDiff, ↓reduceIte, nle_T, nle_F, nlt_T, nlt_F, neq_F, neq_T, if_true, if_false, true_and, and_true, Nat.mul_zero, Nat.zero_add, Nat.add_zero, Nat.reduceAdd, Nat.reduceMul, Nat.reduceSub, li_0, li_1, li_2, li_3, li_4, li_5, li_6, li_7, li_8, li_9, li_10, li_11, li_12, li_13, li_14, li_15, li_16, li_20, li_24, li_28, li_31, li_35, li_38, li_40, li_41, li_45, li_48, li_60, li_62, li_63, li_97, li_100, li_104, li_105, li_120, li_124, li_127, li_180, li_239, li_240, li_255, li_256, li_300, li_400, li_960, li_1000000]
        · have l8' := l8 _ t0
          refine Or.inr (Or.inr (Or.inl ⟨nI 0, σ, su (su τ 0 (fun _ => nI 0)) 0 (fun _ => nI 2), ?_, ?_, rfl, hR2 _ _⟩))
          · simp (implicitDefEqProofs := false) (disch := omega) only [tX7_make, mX1_hasParts, k1, l1, ↓bnd_e, ↓ob_s, ob_s, su_1, su_2, sl_1, sl_2, ↓ck_n, ck_n, ck_Z0, ck_Z1, c_lt, c_le, c_eq, ng_1, m_ne, m_en, m_lt, m_le, m_gt, m_ge, n_add, n_mul, n_sub, n_sm, n_pm, n_0m, n_cl, Nat.reduceEqDiff, ↓reduceIte, nle_T, nle_F, nlt_T, nlt_F, neq_F, neq_T, if_true, if_false, true_and, and_true, Nat.mul_zero, Nat.zero_add, Nat.add_zero, Nat.reduceAdd, Nat.reduceMul, Nat.reduceSub, li_0, li_1, li_2, li_3, li_4, li_5, li_6, li_7, li_8, li_9, li_10, li_11, li_12, li_13, li_14, li_15, li_16, li_20, li_24, li_28, li_31, li_35, li_38, li_40, li_41, li_45, li_48, li_60, li_62, li_63, li_97, li_100, li_104, li_105, li_120, li_124, li_127, li_180, li_239, li_240, li_255, li_256, li_300, li_400, li_960, li_1000000]
          · simp (implicitDefEqProofs := false) (disch := omega) only [mX8_make, mX8_make_34, mX8_make_47, mX8_make_60, mX8_no, i1, k8', l8', ↓bnd_e, ↓ob_s, ob_s, su_1, su_2, sl_1, sl_2, ↓ck_n, ck_n, ck_Z0, ck_Z1, c_lt, c_le, c_eq, ng_1, m_ne, m_en, m_lt, m_le, m_gt, m_ge, n_add, n_mul, n_sub, n_sm, n_pm, n_0m, n_cl, Nat.reduceEqDiff, ↓reduceIte, nle_T, nle_F, nlt_T, nlt_F, neq_F, neq_T, if_true, if_false, true_and, and_true, Nat.mul_zero, Nat.zero_add, Nat.add_zero, Nat.reduceAdd, Nat.reduceMul, Nat.reduceSub, li_0, li_1, li_2, li_3, li_4, li_5, li_6, li_7, li_8, li_9, li_10, li_11, li_12, li_13, li_14, li_15, li_16, li_20, li_24, li_28, li_31, li_35, li_38, li_40, li_41, li_45, li_48, li_60, li_62, li_63, li_97, li_100, li_104, li_105, li_120, li_124, li_127, li_180, li_239, li_240, li_255, li_256, li_300, li_400, li_960, li_1000000]
      · have k8' := k8 _ t0
        refine Or.inr (Or.inr (Or.inl ⟨nI 0, σ, su (su τ 0 (fun _ => nI 0)) 0 (fun _ => nI 2), ?_, ?_, rfl, hR2 _ _⟩))
        · simp (implicitDefEqProofs := false) (disch := omega) only [tX7_make, mX1_hasParts, k1, ↓bnd_e, ↓ob_s, ob_s, su_1, su_2, sl_1, sl_2, ↓ck_n, ck_n, ck_Z0, ck_Z1, c_lt, c_le, c_eq, ng_1, m_ne, m_en, m_lt, m_le, m_gt, m_ge, n_add, n_mul, n_sub, n_sm, n_pm, n_0m, n_cl, Nat.reduceEqDiff, ↓reduceIte, nle_T, nle_F, nlt_T, nlt_F, neq_F, neq_T, if_true, if_false, true_and, and_true, Nat.mul_zero, Nat.zero_add, Nat.add_zero, Nat.reduceAdd, Nat.reduceMul, Nat.reduceSub, li_0, li_1, li_2, li_3, li_4, li_5, li_6, li_7, li_8, li_9, li_10, li_11, li_12, li_13, li_14, li_15, li_16, li_20, li_24, li_28, li_31, li_35, li_38, li_40, li_41, li_45, li_48, li_60, li_62, li_63, li_97, li_100, li_104, li_105, li_120, li_124, li_127, li_180, li_239, li_240, li_255, li_256, li_300, li_400, li_960, li_1000000]
        · simp (implicitDefEqProofs := false) (disch := omega) only [mX8_make, mX8_make_34, mX8_make_60, mX8_no, i1, k8', ↓bnd_e, ↓ob_s, ob_s, su_1, su_2, sl_1, sl_2, ↓ck_n, ck_n, ck_Z0, ck_Z1, c_lt, c_le, c_eq, ng_1, m_ne, m_en, m_lt, m_le, m_gt, m_ge, n_add, n_mul, n_sub, n_sm, n_pm, n_0m, n_cl, Nat.reduceEqDiff, ↓reduceIte, nle_T, nle_F, nlt_T, nlt_F, neq_F, neq_T, if_true, if_false, true_and, and_true, Nat.mul_zero, Nat.zero_add, Nat.add_zero, Nat.reduceAdd, Nat.reduceMul, Nat.reduceSub, li_0, li_1, li_2, li_3, li_4, li_5, li_6, li_7, li_8, li_9, li_10, li_11, li_12, li_13, li_14, li_15, li_16, li_20, li_24, li_28, li_31, li_35, li_38, li_40, li_41, li_45, li_48, li_60, li_62, li_63, li_97, li_100, li_104, li_105, li_120, li_124, li_127, li_180, li_239, li_240, li_255, li_256, li_300, li_400, li_960, li_1000000]
  · refine Or.inr (Or.inl ⟨nI 0, σ, su (su τ 0 (fun _ => nI 0)) 0 (fun _ => nI 1), ?_, ?_, rfl, hR2 _ _⟩)
    · rcases ix3 p1 6 (by omega) with ⟨h, h'⟩ | ⟨h, h', _, h2, h3⟩ | ⟨j, hj, rfl⟩
      · simp (implicitDefEqProofs := false) (disch := omega) only [tX7_make, h, ↓bnd_e, ↓ob_s, ob_s, su_1, su_2, sl_1, sl_2, ↓ck_n, ck_n, ck_Z0, ck_Z1, c_lt, c_le, c_eq, ng_1, m_ne, m_en, m_lt, m_le, m_gt, m_ge, n_add, n_mul, n_sub, n_sm, n_pm, n_0m, n_cl, Nat.reduceEqDiff, ↓reduceIte, nle_T, nle_F, nlt_T, nlt_F, neq_F, neq_T, if_true, if_false, true_and, and_true, Nat.mul_zero, Nat.zero_add, Nat.add_zero, Nat.reduceAdd, Nat.reduceMul, Nat.reduceSub, li_0, li_1, li_2, li_3, li_4, li_5, li_6, li_7, li_8, li_9, li_10, li_11, li_12, li_13, li_14, li_15, li_16, li_20, li_24, li_28, li_31, li_35, li_38, li_40, li_41, li_45, li_48, li_60, li_62, li_63, li_97, li_100, li_104, li_105, li_120, li_124, li_127, li_180, li_239, li_240, li_255, li_256, li_300, li_400, li_960, li_1000000]
      · have := (h2 5 (by omega)).2.1
        simp (implicitDefEqProofs := false) (disch := omega) only [tX7_make, h, this, ↓bnd_e, ↓ob_s, ob_s, su_1, su_2, sl_1, sl_2, ↓ck_n, ck_n, ck_Z0, ck_Z1, c_lt, c_le, c_eq, ng_1, m_ne, m_en, m_lt, m_le, m_gt, m_ge, n_add, n_mul, n_sub, n_sm, n_pm, n_0m, n_cl, Nat.reduceEqDiff, ↓reduceIte, nle_T, nle_F, nlt_T, nlt_F, neq_F, neq_T, if_true, if_false, true_and, and_true, Nat.mul_zero, Nat.zero_add, Nat.add_zero, Nat.reduceAdd, Nat.reduceMul, Nat.reduceSub, li_0, li_1, li_2, li_3, li_4, li_5, li_6, li_7, li_8, li_9, li_10, li_11, li_12, li_13, li_14, li_15, li_16, li_20, li_24, li_28, li_31, li_35, li_38, li_40, li_41, li_45, li_48, li_60, li_62, li_63, li_97, li_100, li_104, li_105, li_120, li_124, li_127, li_180, li_239, li_240, li_255, li_256, li_300, li_400, li_960, li_1000000]
      · exact (hx ⟨j, by omega, rfl⟩).elim
    · simp (implicitDefEqProofs := false) (disch := omega) only [mX8_make, mX8_make_28, mX8_no, i2, ↓bnd_e, ↓ob_s, ob_s, su_1, su_2, sl_1, sl_2, ↓ck_n, ck_n, ck_Z0, ck_Z1, c_lt, c_le, c_eq, ng_1, m_ne, m_en, m_lt, m_le, m_gt, m_ge, n_add, n_mul, n_sub, n_sm, n_pm, n_0m, n_cl, Nat.reduceEqDiff, ↓reduceIte, nle_T, nle_F, nlt_T, nlt_F, neq_F, neq_T, if_true, if_false, true_and, and_true, Nat.mul_zero, Nat.zero_add, Nat.add_zero, Nat.reduceAdd, Nat.reduceMul, Nat.reduceSub, li_0, li_1, li_2, li_3, li_4, li_5, li_6, li_7, li_8, li_9, li_10, li_11, li_12, li_13, li_14, li_15, li_16, li_20, li_24, li_28, li_31, li_35, li_38, li_40, li_41, li_45, li_48, li_60, li_62, li_63, li_97, li_100, li_104, li_105, li_120, li_124, li_127, li_180, li_239, li_240, li_255, li_256, li_300, li_400, li_960, li_1000000]
/-- one byte more on the tape -/
def BY (σ τ : St) : Prop := ∀ k, ∃ b, b < 256 ∧ τ.1 13 k = nI b ∧ σ.1 18 k = (nI b).toInt8.toInt32
theorem byte_and (x : Int32) : (x &&& nI 255).toInt8.toInt32 = x.toInt8.toInt32 := by
  congr 1
  apply Int8.toBitVec_inj.1
  show (x &&& nI 255).toBitVec.signExtend 8 = x.toBitVec.signExtend 8
  rw [BitVec.signExtend_eq_setWidth_of_le _ (by decide), BitVec.signExtend_eq_setWidth_of_le _ (by decide), Int32.toBitVec_and]
  have : (nI 255).toBitVec = 255#32 := rfl
  rw [this]
  apply BitVec.eq_of_getLsbD_eq
  intro i hi
  rw [BitVec.getLsbD_setWidth, BitVec.getLsbD_setWidth, BitVec.getLsbD_and]
  have h8 : ∀ i, i < 8 → (255#32).getLsbD i = true := by decide
  rw [h8 i hi]; simp
theorem BY.u {σ τ : St} (h : BY σ τ) (N : Nat) (x : Int32) : BY (su (su σ 18 (upd (σ.1 18) N (vp_nar .byte x.toInt8.toInt32))) 1 (fun _ => nI (N + 1))) (su (su τ 13 (upd (τ.1 13) N (x &&& nI 255))) 1 (fun _ => nI (N + 1))) := by
  intro k
  show ∃ b, b < 256 ∧ upd (τ.1 13) N (x &&& nI 255) k = nI b ∧ upd (σ.1 18) N (vp_nar .byte x.toInt8.toInt32) k = (nI b).toInt8.toInt32
  rw [up_1, up_1]
  by_cases e : k = N
  · rw [if_pos e, if_pos e, pk_vb]
    obtain ⟨j, hj, e2⟩ := pk_andE x (m := nI 255) 8 (by decide)
    exact ⟨j, hj, e2, by rw [← e2, byte_and]⟩
  · rw [if_neg e, if_neg e]; exact h k
theorem app_rel {σ τ : St} {N : Nat} (hN : N + 4 ≤ 400) (h1 : σ.1 1 0 = nI N) (h8 : τ.1 1 0 = nI N) (hb : BY σ τ) (v : Int32) : ∃ σ' τ', mX5_append σ v = some σ' ∧ KE [1, 18] σ σ' ∧ KE [1, 13] τ τ' ∧ σ'.2 = σ.2 ∧
    σ'.1 1 0 = nI (N + 4) ∧ τ'.1 1 0 = nI (N + 4) ∧ BY σ' τ' ∧ ∀ kh i, i < 5 → mX8_feed_80 kh NF τ (nI 5) (nI i) v (nI 3) = kh τ' (nI 5) (nI (i + 1)) := by
  have c1 := hb.u N (v >>> (nI 24 &&& nI 31))
  have c2 := c1.u (N + 1) (v >>> (nI 16 &&& nI 31))
  have c3 := c2.u (N + 2) (v >>> (nI 8 &&& nI 31))
  have c4 := c3.u (N + 3) (v >>> (nI 0 &&& nI 31))
  have m8 : ∀ a, 8 ≤ a → a < 100 → nI a + -nI 8 = nI (a - 8) := fun a h _ => by
    have : nI a + -nI 8 = nI a - nI 8 := (Int32.sub_eq_add_neg _ _).symm
    rw [this, n_sub h]
  have m88 : nI 0 + -nI 8 < nI 0 := by decide
  have stC : ∀ (u : St) (M sft n : Nat), M < 400 → sft < 100 → u.1 1 0 = nI M → mX5_append_3 (n + 1) u v (nI sft) = mX5_append_3 n (su (su u 18 (upd (u.1 18) M (vp_nar .byte (v >>> (nI sft &&& nI 31)).toInt8.toInt32))) 1 (fun _ => nI (M + 1))) v (nI sft + -nI 8) := by
    intro u M sft n hM hs hu
    simp (implicitDefEqProofs := false) (disch := omega) only [fx_s, bX5_append_3, mX5_append_47, hu, ↓bnd_e, ↓ob_s, ob_s, su_1, su_2, sl_1, sl_2, ↓ck_n, ck_n, ck_Z0, ck_Z1, c_lt, c_le, c_eq, ng_1, m_ne, m_en, m_lt, m_le, m_gt, m_ge, n_add, n_mul, n_sub, n_sm, n_pm, n_0m, n_cl, Nat.reduceEqDiff, ↓reduceIte, nle_T, nle_F, nlt_T, nlt_F, neq_F, neq_T, if_true, if_false, true_and, and_true, Nat.mul_zero, Nat.zero_add, Nat.add_zero, Nat.reduceAdd, Nat.reduceMul, Nat.reduceSub, li_0, li_1, li_2, li_3, li_4, li_5, li_6, li_7, li_8, li_9, li_10, li_11, li_12, li_13, li_14, li_15, li_16, li_20, li_24, li_28, li_31, li_35, li_38, li_40, li_41, li_45, li_48, li_60, li_62, li_63, li_97, li_100, li_104, li_105, li_120, li_124, li_127, li_180, li_239, li_240, li_255, li_256, li_300, li_400, li_960, li_1000000]
  have enC : ∀ (u : St) (n : Nat), mX5_append_3 (n + 1) u v (nI 0 + -nI 8) = some u := by
    intro u n
    have m88' : (nI 0 + -nI 8 < 0) = True := eq_true m88
    simp (implicitDefEqProofs := false) only [fx_s, bX5_append_3, m88', ↓reduceIte]
  have stM : ∀ (u : St) (M i k n : Nat) (kh0 : St → Int32 → Int32 → Option (Int32 × St)), M < 400 → k < 10 → u.1 1 0 = nI M →
      mX8_feed_80 kh0 (n + 1) u (nI 5) (nI i) v (nI k) = mX8_feed_80 kh0 n (su (su u 13 (upd (u.1 13) M ((v >>> (nI (8 * k) &&& nI 31)) &&& nI 255))) 1 (fun _ => nI (M + 1))) (nI 5) (nI i) v (nI k + mI) := by
    intro u M i k n kh0 hM hk hu
    have e : nI k + mI = nI k + -nI 1 := rfl
    rw [e]
    simp (implicitDefEqProofs := false) (disch := omega) only [fx_s, bX8_feed_80, hu, ↓bnd_e, ↓ck_n, n_mul, n_add, n_cl, li_8, li_31, li_255, li_0, li_1, c_lt, nlt_F, ↓reduceIte, su_1, Nat.reduceEqDiff]
  have enM : ∀ (u : St) (i n : Nat) (kh0 : St → Int32 → Int32 → Option (Int32 × St)), mX8_feed_80 kh0 (n + 1) u (nI 5) (nI i) v (nI 0 + mI) = kh0 u (nI 5) (nI (i + 1)) := by
    intro u i n kh0
    have e0 : (nI 0 + mI < 0) = True := eq_true (by decide)
    simp (implicitDefEqProofs := false) only [fx_s, bX8_feed_80, mX8_feed_122, e0, ↓reduceIte, bnd_e, li_1, n_add]
  obtain ⟨nf, hnf⟩ := NF_5
  refine ⟨_, _, ?_, ?_, ?_, ?_, ?_, ?_, c4, fun kh i hi => ?_⟩
  · unfold mX5_append
    rw [hnf, show (24 : Int32) = nI 24 from rfl, stC σ N 24 _ (by omega) (by omega) h1, m8 24 (by omega) (by omega)]
    rw [show (24 - 8 : Nat) = 16 from rfl, stC _ (N + 1) 16 _ (by omega) (by omega) rfl, m8 16 (by omega) (by omega)]
    rw [show (16 - 8 : Nat) = 8 from rfl, stC _ (N + 2) 8 _ (by omega) (by omega) rfl, m8 8 (by omega) (by omega)]
    rw [show (8 - 8 : Nat) = 0 from rfl, stC _ (N + 3) 0 _ (by omega) (by omega) rfl, enC]
  · exact (((((((KE.rf.s (by decide)).s (by decide)).s (by decide)).s (by decide)).s (by decide)).s (by decide)).s (by decide)).s (by decide)
  · exact (((((((KE.rf.s (by decide)).s (by decide)).s (by decide)).s (by decide)).s (by decide)).s (by decide)).s (by decide)).s (by decide)
  · rfl
  · rfl
  · rfl
  · have e3 : nI 3 + mI = nI 2 := rfl
    have e2 : nI 2 + mI = nI 1 := rfl
    have e1 : nI 1 + mI = nI 0 := rfl
    rw [hnf, stM τ N i 3 _ _ (by omega) (by omega) h8, e3, stM _ (N + 1) i 2 _ _ (by omega) (by omega) rfl, e2, stM _ (N + 2) i 1 _ _ (by omega) (by omega) rfl, e1, stM _ (N + 3) i 0 _ _ (by omega) (by omega) rfl, enM]
