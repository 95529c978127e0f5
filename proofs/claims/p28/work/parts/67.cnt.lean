theorem kG_at (t0 t1 t2 t3 t4 t5 t6 t7 : Int32) : kG t0 t1 t2 t3 t4 t5 t6 t7 0 = t0 ∧ kG t0 t1 t2 t3 t4 t5 t6 t7 1 = t1 ∧ kG t0 t1 t2 t3 t4 t5 t6 t7 2 = t2 ∧ kG t0 t1 t2 t3 t4 t5 t6 t7 3 = t3 ∧ kG t0 t1 t2 t3 t4 t5 t6 t7 4 = t4 ∧ kG t0 t1 t2 t3 t4 t5 t6 t7 5 = t5 ∧ kG t0 t1 t2 t3 t4 t5 t6 t7 6 = t6 ∧ kG t0 t1 t2 t3 t4 t5 t6 t7 7 = t7 := ⟨rfl, rfl, rfl, rfl, rfl, rfl, rfl, rfl⟩
/-- all that is counted -/
theorem counted_e {τ : St} {O m : Nat} (ho : ∀ f, mX8_open (su τ 42 f) = some (nI O)) (hp : ∀ f, mX8_premisesNow (su τ 42 f) = some (nI m)) {c : Nat} {τ' : St}
    (hl : mX8_look (su τ 42 (kG (τ.1 5 0) (τ.1 1 0) (τ.1 4 0) (τ.1 6 0) (τ.1 7 0) (nI O) (nI m) (τ.1 10 0))) = some (nI c, τ')) {w : Nat} (hw : w < 9) :
    mX8_counted τ (nI w) = some (upd (kG (τ.1 5 0) (τ.1 1 0) (τ.1 4 0) (τ.1 6 0) (τ.1 7 0) (nI O) (nI m) (τ.1 10 0)) 8 (nI c) w, su τ' 42 (upd (kG (τ.1 5 0) (τ.1 1 0) (τ.1 4 0) (τ.1 6 0) (τ.1 7 0) (nI O) (nI m) (τ.1 10 0)) 8 (nI c))) := by
  unfold kG at hl ⊢
  simp (implicitDefEqProofs := false) (disch := omega) only [mX8_counted, su_su, ho, hp, hl, ↓bnd_e, ↓ob_s, ob_s, su_1, su_2, sl_1, sl_2, ↓ck_n, ck_n, ck_Z0, ck_Z1, c_lt, c_le, c_eq, ng_1, m_ne, m_en, m_lt, m_le, m_gt, m_ge, n_add, n_mul, n_sub, n_sm, n_pm, n_0m, n_cl, Nat.reduceEqDiff, ↓reduceIte, nle_T, nle_F, nlt_T, nlt_F, neq_F, neq_T, if_true, if_false, true_and, and_true, Nat.mul_zero, Nat.zero_add, Nat.add_zero, Nat.reduceAdd, Nat.reduceMul, Nat.reduceSub, li_0, li_1, li_2, li_3, li_4, li_5, li_6, li_7, li_8, li_9, li_10, li_11, li_12, li_13, li_14, li_15, li_16, li_20, li_24, li_28, li_31, li_35, li_38, li_40, li_41, li_45, li_48, li_60, li_62, li_63, li_97, li_100, li_104, li_105, li_120, li_124, li_127, li_180, li_239, li_240, li_255, li_256, li_300, li_400, li_960, li_1000000]
/-- how many of each there are -/
theorem count_told {F T L B O : Nat} {σ τ : St} (h : VV F T L B O σ τ) (hf : RF F σ τ) (ht : RT σ τ) (hp : RP σ τ) (hh : RH F T σ τ) {w : Nat} (hw : w ≤ 8) :
    ∃ r σ' τ', mX7_count σ (nI w) = some (r, σ') ∧ mX8_counted τ (nI w) = some (r, τ') ∧ KE [34] σ σ' ∧ σ'.2 = σ.2 ∧ KE [40, 42] τ τ' := by
  have hL : L ≤ 60 := h.2.2.2.1.1
  obtain ⟨m, hm⟩ := prem_ex h.2.2.2
  have ho : ∀ f, mX8_open (su τ 42 f) = some (nI O) := fun f => x8_open_r (τ := su τ 42 f) (h.2.2.2.k (m := [42]) hh.1.1 (KE.rf.s (by decide)) (by decide))
  have hpm : ∀ f, mX8_premisesNow (su τ 42 f) = some (nI m) := fun f => x8_prem (τ := su τ 42 f) (L := L) (m := m) hL h.1.2.1 hm
  have c6 := x3_prem hL h.1.1 h.2.1.2.1 hm
  obtain ⟨a8, a6, a1, a2, a3, a4⟩ := h.1
  have k42 : ∀ f, KE [40, 42, 0] τ (su τ 42 f) := fun f => KE.rf.s (by decide)
  obtain ⟨c, σ', τ', n1, n2, n3, n4, n5, n6, n7, n8⟩ := ((h.lq hh).k (KE.rf (l := [34])) (k42 (kG (τ.1 5 0) (τ.1 1 0) (τ.1 4 0) (τ.1 6 0) (τ.1 7 0) (nI O) (nI m) (τ.1 10 0)))).zi
  have e8 := counted_e ho hpm n2 (w := w) (by omega)
  have kτ : KE [40, 42] τ (su τ' 42 (upd (kG (τ.1 5 0) (τ.1 1 0) (τ.1 4 0) (τ.1 6 0) (τ.1 7 0) (nI O) (nI m) (τ.1 10 0)) 8 (nI c))) :=
    ((KE.rf.s (l := [40, 42]) (by decide)).tr (n5.wk (by decide))).s (by decide)
  obtain ⟨g0, g1, g2, g3, g4, g5, g6, g7⟩ := kG_at (τ.1 5 0) (τ.1 1 0) (τ.1 4 0) (τ.1 6 0) (τ.1 7 0) (nI O) (nI m) (τ.1 10 0)
  obtain ⟨⟨N, _, N1, N8⟩, _⟩ := ht
  obtain ⟨M, _, M1, M8, _⟩ := hp
  have hw9 : w = 0 ∨ w = 1 ∨ w = 2 ∨ w = 3 ∨ w = 4 ∨ w = 5 ∨ w = 6 ∨ w = 7 ∨ w = 8 := by omega
  rcases hw9 with rfl | rfl | rfl | rfl | rfl | rfl | rfl | rfl | rfl
  · rw [pk_un (by omega), g0] at e8
    exact ⟨_, σ, _, by simp (implicitDefEqProofs := false) (disch := omega) only [mX7_count, mX1_known, hf.1.2.1, hf.1.2.2, ↓bnd_e, ↓ob_s, ob_s, su_1, su_2, sl_1, sl_2, ↓ck_n, ck_n, ck_Z0, ck_Z1, c_lt, c_le, c_eq, ng_1, m_ne, m_en, m_lt, m_le, m_gt, m_ge, n_add, n_mul, n_sub, n_sm, n_pm, n_0m, n_cl, Nat.reduceEqDiff, ↓reduceIte, nle_T, nle_F, nlt_T, nlt_F, neq_F, neq_T, if_true, if_false, true_and, and_true, Nat.mul_zero, Nat.zero_add, Nat.add_zero, Nat.reduceAdd, Nat.reduceMul, Nat.reduceSub, li_0, li_1, li_2, li_3, li_4, li_5, li_6, li_7, li_8, li_9, li_10, li_11, li_12, li_13, li_14, li_15, li_16, li_20, li_24, li_28, li_31, li_35, li_38, li_40, li_41, li_45, li_48, li_60, li_62, li_63, li_97, li_100, li_104, li_105, li_120, li_124, li_127, li_180, li_239, li_240, li_255, li_256, li_300, li_400, li_960, li_1000000], e8, KE.rf, rfl, kτ⟩
  · rw [pk_un (by omega), g1] at e8
    exact ⟨_, σ, _, by simp (implicitDefEqProofs := false) (disch := omega) only [mX7_count, mX5_size, N1, N8, ↓bnd_e, ↓ob_s, ob_s, su_1, su_2, sl_1, sl_2, ↓ck_n, ck_n, ck_Z0, ck_Z1, c_lt, c_le, c_eq, ng_1, m_ne, m_en, m_lt, m_le, m_gt, m_ge, n_add, n_mul, n_sub, n_sm, n_pm, n_0m, n_cl, Nat.reduceEqDiff, ↓reduceIte, nle_T, nle_F, nlt_T, nlt_F, neq_F, neq_T, if_true, if_false, true_and, and_true, Nat.mul_zero, Nat.zero_add, Nat.add_zero, Nat.reduceAdd, Nat.reduceMul, Nat.reduceSub, li_0, li_1, li_2, li_3, li_4, li_5, li_6, li_7, li_8, li_9, li_10, li_11, li_12, li_13, li_14, li_15, li_16, li_20, li_24, li_28, li_31, li_35, li_38, li_40, li_41, li_45, li_48, li_60, li_62, li_63, li_97, li_100, li_104, li_105, li_120, li_124, li_127, li_180, li_239, li_240, li_255, li_256, li_300, li_400, li_960, li_1000000], e8, KE.rf, rfl, kτ⟩
  · rw [pk_un (by omega), g2] at e8
    exact ⟨_, σ, _, by simp (implicitDefEqProofs := false) (disch := omega) only [mX7_count, mX2_size, M1, M8, ↓bnd_e, ↓ob_s, ob_s, su_1, su_2, sl_1, sl_2, ↓ck_n, ck_n, ck_Z0, ck_Z1, c_lt, c_le, c_eq, ng_1, m_ne, m_en, m_lt, m_le, m_gt, m_ge, n_add, n_mul, n_sub, n_sm, n_pm, n_0m, n_cl, Nat.reduceEqDiff, ↓reduceIte, nle_T, nle_F, nlt_T, nlt_F, neq_F, neq_T, if_true, if_false, true_and, and_true, Nat.mul_zero, Nat.zero_add, Nat.add_zero, Nat.reduceAdd, Nat.reduceMul, Nat.reduceSub, li_0, li_1, li_2, li_3, li_4, li_5, li_6, li_7, li_8, li_9, li_10, li_11, li_12, li_13, li_14, li_15, li_16, li_20, li_24, li_28, li_31, li_35, li_38, li_40, li_41, li_45, li_48, li_60, li_62, li_63, li_97, li_100, li_104, li_105, li_120, li_124, li_127, li_180, li_239, li_240, li_255, li_256, li_300, li_400, li_960, li_1000000], e8, KE.rf, rfl, kτ⟩
  · rw [pk_un (by omega), g3] at e8
    exact ⟨_, σ, _, by simp (implicitDefEqProofs := false) (disch := omega) only [mX7_count, mX3_lineCount, a8, a6, ↓bnd_e, ↓ob_s, ob_s, su_1, su_2, sl_1, sl_2, ↓ck_n, ck_n, ck_Z0, ck_Z1, c_lt, c_le, c_eq, ng_1, m_ne, m_en, m_lt, m_le, m_gt, m_ge, n_add, n_mul, n_sub, n_sm, n_pm, n_0m, n_cl, Nat.reduceEqDiff, ↓reduceIte, nle_T, nle_F, nlt_T, nlt_F, neq_F, neq_T, if_true, if_false, true_and, and_true, Nat.mul_zero, Nat.zero_add, Nat.add_zero, Nat.reduceAdd, Nat.reduceMul, Nat.reduceSub, li_0, li_1, li_2, li_3, li_4, li_5, li_6, li_7, li_8, li_9, li_10, li_11, li_12, li_13, li_14, li_15, li_16, li_20, li_24, li_28, li_31, li_35, li_38, li_40, li_41, li_45, li_48, li_60, li_62, li_63, li_97, li_100, li_104, li_105, li_120, li_124, li_127, li_180, li_239, li_240, li_255, li_256, li_300, li_400, li_960, li_1000000], e8, KE.rf, rfl, kτ⟩
  · rw [pk_un (by omega), g4] at e8
    exact ⟨_, σ, _, by simp (implicitDefEqProofs := false) (disch := omega) only [mX7_count, mX3_boxCount, mX0_known, a1, a2, ↓bnd_e, ↓ob_s, ob_s, su_1, su_2, sl_1, sl_2, ↓ck_n, ck_n, ck_Z0, ck_Z1, c_lt, c_le, c_eq, ng_1, m_ne, m_en, m_lt, m_le, m_gt, m_ge, n_add, n_mul, n_sub, n_sm, n_pm, n_0m, n_cl, Nat.reduceEqDiff, ↓reduceIte, nle_T, nle_F, nlt_T, nlt_F, neq_F, neq_T, if_true, if_false, true_and, and_true, Nat.mul_zero, Nat.zero_add, Nat.add_zero, Nat.reduceAdd, Nat.reduceMul, Nat.reduceSub, li_0, li_1, li_2, li_3, li_4, li_5, li_6, li_7, li_8, li_9, li_10, li_11, li_12, li_13, li_14, li_15, li_16, li_20, li_24, li_28, li_31, li_35, li_38, li_40, li_41, li_45, li_48, li_60, li_62, li_63, li_97, li_100, li_104, li_105, li_120, li_124, li_127, li_180, li_239, li_240, li_255, li_256, li_300, li_400, li_960, li_1000000], e8, KE.rf, rfl, kτ⟩
  · rw [pk_un (by omega), g5] at e8
    exact ⟨_, σ, _, by simp (implicitDefEqProofs := false) (disch := omega) only [mX7_count, mX3_openCount, mX0_open, a3, ↓bnd_e, ↓ob_s, ob_s, su_1, su_2, sl_1, sl_2, ↓ck_n, ck_n, ck_Z0, ck_Z1, c_lt, c_le, c_eq, ng_1, m_ne, m_en, m_lt, m_le, m_gt, m_ge, n_add, n_mul, n_sub, n_sm, n_pm, n_0m, n_cl, Nat.reduceEqDiff, ↓reduceIte, nle_T, nle_F, nlt_T, nlt_F, neq_F, neq_T, if_true, if_false, true_and, and_true, Nat.mul_zero, Nat.zero_add, Nat.add_zero, Nat.reduceAdd, Nat.reduceMul, Nat.reduceSub, li_0, li_1, li_2, li_3, li_4, li_5, li_6, li_7, li_8, li_9, li_10, li_11, li_12, li_13, li_14, li_15, li_16, li_20, li_24, li_28, li_31, li_35, li_38, li_40, li_41, li_45, li_48, li_60, li_62, li_63, li_97, li_100, li_104, li_105, li_120, li_124, li_127, li_180, li_239, li_240, li_255, li_256, li_300, li_400, li_960, li_1000000], e8, KE.rf, rfl, kτ⟩
  · rw [pk_un (by omega), g6] at e8
    exact ⟨_, σ, _, by simp (implicitDefEqProofs := false) (disch := omega) only [mX7_count, c6, ↓bnd_e, ↓ob_s, ob_s, su_1, su_2, sl_1, sl_2, ↓ck_n, ck_n, ck_Z0, ck_Z1, c_lt, c_le, c_eq, ng_1, m_ne, m_en, m_lt, m_le, m_gt, m_ge, n_add, n_mul, n_sub, n_sm, n_pm, n_0m, n_cl, Nat.reduceEqDiff, ↓reduceIte, nle_T, nle_F, nlt_T, nlt_F, neq_F, neq_T, if_true, if_false, true_and, and_true, Nat.mul_zero, Nat.zero_add, Nat.add_zero, Nat.reduceAdd, Nat.reduceMul, Nat.reduceSub, li_0, li_1, li_2, li_3, li_4, li_5, li_6, li_7, li_8, li_9, li_10, li_11, li_12, li_13, li_14, li_15, li_16, li_20, li_24, li_28, li_31, li_35, li_38, li_40, li_41, li_45, li_48, li_60, li_62, li_63, li_97, li_100, li_104, li_105, li_120, li_124, li_127, li_180, li_239, li_240, li_255, li_256, li_300, li_400, li_960, li_1000000], e8, KE.rf, rfl, kτ⟩
  · rw [pk_un (by omega), g7] at e8
    exact ⟨_, σ, _, by simp (implicitDefEqProofs := false) (disch := omega) only [mX7_count, mX6_known, hh.1.2.1, hh.1.2.2, ↓bnd_e, ↓ob_s, ob_s, su_1, su_2, sl_1, sl_2, ↓ck_n, ck_n, ck_Z0, ck_Z1, c_lt, c_le, c_eq, ng_1, m_ne, m_en, m_lt, m_le, m_gt, m_ge, n_add, n_mul, n_sub, n_sm, n_pm, n_0m, n_cl, Nat.reduceEqDiff, ↓reduceIte, nle_T, nle_F, nlt_T, nlt_F, neq_F, neq_T, if_true, if_false, true_and, and_true, Nat.mul_zero, Nat.zero_add, Nat.add_zero, Nat.reduceAdd, Nat.reduceMul, Nat.reduceSub, li_0, li_1, li_2, li_3, li_4, li_5, li_6, li_7, li_8, li_9, li_10, li_11, li_12, li_13, li_14, li_15, li_16, li_20, li_24, li_28, li_31, li_35, li_38, li_40, li_41, li_45, li_48, li_60, li_62, li_63, li_97, li_100, li_104, li_105, li_120, li_124, li_127, li_180, li_239, li_240, li_255, li_256, li_300, li_400, li_960, li_1000000], e8, KE.rf, rfl, kτ⟩
  · rw [pk_us] at e8
    exact ⟨_, σ', _, by simp (implicitDefEqProofs := false) (disch := omega) only [mX7_count, n1, ↓bnd_e, ↓ob_s, ob_s, su_1, su_2, sl_1, sl_2, ↓ck_n, ck_n, ck_Z0, ck_Z1, c_lt, c_le, c_eq, ng_1, m_ne, m_en, m_lt, m_le, m_gt, m_ge, n_add, n_mul, n_sub, n_sm, n_pm, n_0m, n_cl, Nat.reduceEqDiff, ↓reduceIte, nle_T, nle_F, nlt_T, nlt_F, neq_F, neq_T, if_true, if_false, true_and, and_true, Nat.mul_zero, Nat.zero_add, Nat.add_zero, Nat.reduceAdd, Nat.reduceMul, Nat.reduceSub, li_0, li_1, li_2, li_3, li_4, li_5, li_6, li_7, li_8, li_9, li_10, li_11, li_12, li_13, li_14, li_15, li_16, li_20, li_24, li_28, li_31, li_35, li_38, li_40, li_41, li_45, li_48, li_60, li_62, li_63, li_97, li_100, li_104, li_105, li_120, li_124, li_127, li_180, li_239, li_240, li_255, li_256, li_300, li_400, li_960, li_1000000], e8, n4, n6, kτ⟩
theorem P_count {σ τ : St} (h : RR σ τ) (p1 : Int32) : (∃ (r : Int32) (σ' : St) (τ' : St), mX7_count σ p1 = some (r, σ') ∧ mX8_count τ p1 = some (r, τ') ∧ τ'.1 0 0 = 0 ∧ RR σ' τ') ∨ (∃ (v : Int32) (σ' : St) (τ' : St), tX7_count σ p1 = some (3, σ') ∧ mX8_count τ p1 = some (v, τ') ∧ τ'.1 0 0 = 1 ∧ RR σ' τ') := by
  have h0 := h
  have hR2 := fun v w => RR_thr (RR_thr h v) w
  obtain ⟨F, T, hf, ht, hp, hh, hv⟩ := h
  obtain ⟨L, B, O, hV⟩ := hv.vv
  have kz : KE [0] τ (su τ 0 (fun _ => nI 0)) := KE.rf.s (by decide)
  have hV' : VV F T L B O σ (su τ 0 (fun _ => nI 0)) := hV.k hh.1.1 (KE.rf (l := [])) kz (by decide) (by decide)
  have hf' : RF F σ (su τ 0 (fun _ => nI 0)) := hf.c (fun _ _ => rfl) rfl (.k kz (by decide))
  have ht' : RT σ (su τ 0 (fun _ => nI 0)) := ht.c (fun _ _ => rfl) (.k kz (by decide))
  have hp' : RP σ (su τ 0 (fun _ => nI 0)) := hp.c (fun _ _ => rfl) (.k kz (by decide))
  have hh' : RH F T σ (su τ 0 (fun _ => nI 0)) := hh.c (Nat.le_refl _) (fun _ _ => rfl) (.k kz (by decide))
  rcases x8_in p1 8 (by omega) with ⟨w, hw, rfl, g1⟩ | ⟨g0, gx, g2⟩
  · obtain ⟨r, σ', τ', e1, e2, e3, e4, e5⟩ := count_told hV' hf' ht' hp' hh' hw
    refine Or.inl ⟨r, σ', τ', e1, ?_, by rw [e5 0 (by decide)]; rfl, RR_qt h0 e3 e4 ((kz.wk (by decide)).tr (e5.wk (by decide)))⟩
    simp only [mX8_count, li_0, li_1, li_8, bnd_e, g1, e2, ob_s]
    exact if_neg (by decide)
  · refine Or.inr ⟨nI 0, σ, su (su τ 0 (fun _ => nI 0)) 0 (fun _ => nI 1), ?_, ?_, rfl, hR2 _ _⟩
    · have n : ∀ k, k ≤ 8 → ¬ p1 = nI k := fun k hk e => gx ⟨k, hk, e⟩
      have n0 := n 0 (by omega); have n1 := n 1 (by omega); have n2 := n 2 (by omega); have n3 := n 3 (by omega); have n4 := n 4 (by omega)
      have n5 := n 5 (by omega); have n6 := n 6 (by omega); have n7 := n 7 (by omega); have n8 := n 8 (by omega)
      simp (implicitDefEqProofs := false) (disch := omega) only [tX7_count, n0, n1, n2, n3, n4, n5, n6, n7, n8, ↓bnd_e, ↓ob_s, ob_s, su_1, su_2, sl_1, sl_2, ↓ck_n, ck_n, ck_Z0, ck_Z1, c_lt, c_le, c_eq, ng_1, m_ne, m_en, m_lt, m_le, m_gt, m_ge, n_add, n_mul, n_sub, n_sm, n_pm, n_0m, n_cl, Nat.reduceEqDiff, ↓reduceIte, nle_T, nle_F, nlt_T, nlt_F, neq_F, neq_T, if_true, if_false, true_and, and_true, Nat.mul_zero, Nat.zero_add, Nat.add_zero, Nat.reduceAdd, Nat.reduceMul, Nat.reduceSub, li_0, li_1, li_2, li_3, li_4, li_5, li_6, li_7, li_8, li_9, li_10, li_11, li_12, li_13, li_14, li_15, li_16, li_20, li_24, li_28, li_31, li_35, li_38, li_40, li_41, li_45, li_48, li_60, li_62, li_63, li_97, li_100, li_104, li_105, li_120, li_124, li_127, li_180, li_239, li_240, li_255, li_256, li_300, li_400, li_960, li_1000000]
    · simp only [mX8_count, mX8_no, li_0, li_1, li_8, bnd_e, g2, ob_s, ↓reduceIte]
/-- what is told of a theorem -/
theorem theo_e {τ : St} {t : Nat} (ht : t < 16) {w : Nat} (hw : w < 7) : mX8_theoremTold τ (nI t) (nI w) = some (kG (τ.1 29 t) (τ.1 30 t) (τ.1 31 (2 * t)) (τ.1 31 (2 * t + 1)) (τ.1 32 t) (τ.1 33 t) (τ.1 34 t) (nI 0) w,
    su τ 42 (upd (upd (upd (upd (upd (upd (upd (fun _ => nI 0) 0 (τ.1 29 t)) 1 (τ.1 30 t)) 2 (τ.1 31 (2 * t))) 3 (τ.1 31 (2 * t + 1))) 4 (τ.1 32 t)) 5 (τ.1 33 t)) 6 (τ.1 34 t))) := by
  have e : kG (τ.1 29 t) (τ.1 30 t) (τ.1 31 (2 * t)) (τ.1 31 (2 * t + 1)) (τ.1 32 t) (τ.1 33 t) (τ.1 34 t) (nI 0) w = upd (upd (upd (upd (upd (upd (upd (fun _ => nI 0) 0 (τ.1 29 t)) 1 (τ.1 30 t)) 2 (τ.1 31 (2 * t))) 3 (τ.1 31 (2 * t + 1))) 4 (τ.1 32 t)) 5 (τ.1 33 t)) 6 (τ.1 34 t) w := by
    unfold kG
    rw [pk_un (by omega)]
  rw [e]
  simp (implicitDefEqProofs := false) (disch := omega) only [mX8_theoremTold, su_su, ↓bnd_e, ↓ob_s, ob_s, su_1, su_2, sl_1, sl_2, ↓ck_n, ck_n, ck_Z0, ck_Z1, c_lt, c_le, c_eq, ng_1, m_ne, m_en, m_lt, m_le, m_gt, m_ge, n_add, n_mul, n_sub, n_sm, n_pm, n_0m, n_cl, Nat.reduceEqDiff, ↓reduceIte, nle_T, nle_F, nlt_T, nlt_F, neq_F, neq_T, if_true, if_false, true_and, and_true, Nat.mul_zero, Nat.zero_add, Nat.add_zero, Nat.reduceAdd, Nat.reduceMul, Nat.reduceSub, li_0, li_1, li_2, li_3, li_4, li_5, li_6, li_7, li_8, li_9, li_10, li_11, li_12, li_13, li_14, li_15, li_16, li_20, li_24, li_28, li_31, li_35, li_38, li_40, li_41, li_45, li_48, li_60, li_62, li_63, li_97, li_100, li_104, li_105, li_120, li_124, li_127, li_180, li_239, li_240, li_255, li_256, li_300, li_400, li_960, li_1000000]
theorem theo_told {F T : Nat} {σ τ : St} (hF : F ≤ 240) (h : RH F T σ τ) {t w : Nat} (ht : t < T) (hw : w ≤ 6) : ∃ r τ', mX7_theorem σ (nI t) (nI w) = some r ∧ mX8_theoremTold τ (nI t) (nI w) = some (r, τ') ∧ KE [42] τ τ' := by
  have hT := h.1.1
  have h6 := h.1.2.1
  obtain ⟨e22, e25, e26, e27⟩ := h.2.1
  obtain ⟨_, e23, e24, _⟩ := h.2.2 t ht
  have e8 := theo_e (τ := τ) (t := t) (by omega) (w := w) (by omega)
  obtain ⟨g0, g1, g2, g3, g4, g5, g6, g7⟩ := kG_at (τ.1 29 t) (τ.1 30 t) (τ.1 31 (2 * t)) (τ.1 31 (2 * t + 1)) (τ.1 32 t) (τ.1 33 t) (τ.1 34 t) (nI 0)
  have kτ : ∀ f, KE [42] τ (su τ 42 f) := fun f => KE.rf.s (by decide)
  have ik : mX6_isKnown σ (nI t) = some (nI 1) := by simp (implicitDefEqProofs := false) (disch := omega) only [mX6_isKnown, h6, ↓bnd_e, ↓ob_s, ob_s, su_1, su_2, sl_1, sl_2, ↓ck_n, ck_n, ck_Z0, ck_Z1, c_lt, c_le, c_eq, ng_1, m_ne, m_en, m_lt, m_le, m_gt, m_ge, n_add, n_mul, n_sub, n_sm, n_pm, n_0m, n_cl, Nat.reduceEqDiff, ↓reduceIte, nle_T, nle_F, nlt_T, nlt_F, neq_F, neq_T, if_true, if_false, true_and, and_true, Nat.mul_zero, Nat.zero_add, Nat.add_zero, Nat.reduceAdd, Nat.reduceMul, Nat.reduceSub, li_0, li_1, li_2, li_3, li_4, li_5, li_6, li_7, li_8, li_9, li_10, li_11, li_12, li_13, li_14, li_15, li_16, li_20, li_24, li_28, li_31, li_35, li_38, li_40, li_41, li_45, li_48, li_60, li_62, li_63, li_97, li_100, li_104, li_105, li_120, li_124, li_127, li_180, li_239, li_240, li_255, li_256, li_300, li_400, li_960, li_1000000]
  have hw7 : w = 0 ∨ w = 1 ∨ w = 2 ∨ w = 3 ∨ w = 4 ∨ w = 5 ∨ w = 6 := by omega
  rcases hw7 with rfl | rfl | rfl | rfl | rfl | rfl | rfl
  · rw [g0, ← e22] at e8
    exact ⟨_, _, by simp (implicitDefEqProofs := false) (disch := omega) only [mX7_theorem, ik, mX6_conclusion, h6, ↓bnd_e, ↓ob_s, ob_s, su_1, su_2, sl_1, sl_2, ↓ck_n, ck_n, ck_Z0, ck_Z1, c_lt, c_le, c_eq, ng_1, m_ne, m_en, m_lt, m_le, m_gt, m_ge, n_add, n_mul, n_sub, n_sm, n_pm, n_0m, n_cl, Nat.reduceEqDiff, ↓reduceIte, nle_T, nle_F, nlt_T, nlt_F, neq_F, neq_T, if_true, if_false, true_and, and_true, Nat.mul_zero, Nat.zero_add, Nat.add_zero, Nat.reduceAdd, Nat.reduceMul, Nat.reduceSub, li_0, li_1, li_2, li_3, li_4, li_5, li_6, li_7, li_8, li_9, li_10, li_11, li_12, li_13, li_14, li_15, li_16, li_20, li_24, li_28, li_31, li_35, li_38, li_40, li_41, li_45, li_48, li_60, li_62, li_63, li_97, li_100, li_104, li_105, li_120, li_124, li_127, li_180, li_239, li_240, li_255, li_256, li_300, li_400, li_960, li_1000000], e8, kτ _⟩
  · rw [g1] at e8
    rcases x6_prem hF h (nI t) with ⟨t', m, _, e, _, e30, ep, _⟩ | ⟨hn, _⟩
    · rw [c_eq (by omega) (by omega)] at e
      subst e
      rw [e30] at e8
      exact ⟨_, _, by simp (implicitDefEqProofs := false) (disch := omega) only [mX7_theorem, ik, ep, ↓bnd_e, ↓ob_s, ob_s, su_1, su_2, sl_1, sl_2, ↓ck_n, ck_n, ck_Z0, ck_Z1, c_lt, c_le, c_eq, ng_1, m_ne, m_en, m_lt, m_le, m_gt, m_ge, n_add, n_mul, n_sub, n_sm, n_pm, n_0m, n_cl, Nat.reduceEqDiff, ↓reduceIte, nle_T, nle_F, nlt_T, nlt_F, neq_F, neq_T, if_true, if_false, true_and, and_true, Nat.mul_zero, Nat.zero_add, Nat.add_zero, Nat.reduceAdd, Nat.reduceMul, Nat.reduceSub, li_0, li_1, li_2, li_3, li_4, li_5, li_6, li_7, li_8, li_9, li_10, li_11, li_12, li_13, li_14, li_15, li_16, li_20, li_24, li_28, li_31, li_35, li_38, li_40, li_41, li_45, li_48, li_60, li_62, li_63, li_97, li_100, li_104, li_105, li_120, li_124, li_127, li_180, li_239, li_240, li_255, li_256, li_300, li_400, li_960, li_1000000], e8, kτ _⟩
    · exact (hn t ht rfl).elim
  · rw [g2, ← e23] at e8
    exact ⟨_, _, by simp (implicitDefEqProofs := false) (disch := omega) only [mX7_theorem, ik, mX6_firstPremise, h6, ↓bnd_e, ↓ob_s, ob_s, su_1, su_2, sl_1, sl_2, ↓ck_n, ck_n, ck_Z0, ck_Z1, c_lt, c_le, c_eq, ng_1, m_ne, m_en, m_lt, m_le, m_gt, m_ge, n_add, n_mul, n_sub, n_sm, n_pm, n_0m, n_cl, Nat.reduceEqDiff, ↓reduceIte, nle_T, nle_F, nlt_T, nlt_F, neq_F, neq_T, if_true, if_false, true_and, and_true, Nat.mul_zero, Nat.zero_add, Nat.add_zero, Nat.reduceAdd, Nat.reduceMul, Nat.reduceSub, li_0, li_1, li_2, li_3, li_4, li_5, li_6, li_7, li_8, li_9, li_10, li_11, li_12, li_13, li_14, li_15, li_16, li_20, li_24, li_28, li_31, li_35, li_38, li_40, li_41, li_45, li_48, li_60, li_62, li_63, li_97, li_100, li_104, li_105, li_120, li_124, li_127, li_180, li_239, li_240, li_255, li_256, li_300, li_400, li_960, li_1000000], e8, kτ _⟩
  · rw [g3, ← e24] at e8
    exact ⟨_, _, by simp (implicitDefEqProofs := false) (disch := omega) only [mX7_theorem, ik, mX6_secondPremise, h6, ↓bnd_e, ↓ob_s, ob_s, su_1, su_2, sl_1, sl_2, ↓ck_n, ck_n, ck_Z0, ck_Z1, c_lt, c_le, c_eq, ng_1, m_ne, m_en, m_lt, m_le, m_gt, m_ge, n_add, n_mul, n_sub, n_sm, n_pm, n_0m, n_cl, Nat.reduceEqDiff, ↓reduceIte, nle_T, nle_F, nlt_T, nlt_F, neq_F, neq_T, if_true, if_false, true_and, and_true, Nat.mul_zero, Nat.zero_add, Nat.add_zero, Nat.reduceAdd, Nat.reduceMul, Nat.reduceSub, li_0, li_1, li_2, li_3, li_4, li_5, li_6, li_7, li_8, li_9, li_10, li_11, li_12, li_13, li_14, li_15, li_16, li_20, li_24, li_28, li_31, li_35, li_38, li_40, li_41, li_45, li_48, li_60, li_62, li_63, li_97, li_100, li_104, li_105, li_120, li_124, li_127, li_180, li_239, li_240, li_255, li_256, li_300, li_400, li_960, li_1000000], e8, kτ _⟩
  · rw [g4, ← e25] at e8
    exact ⟨_, _, by simp (implicitDefEqProofs := false) (disch := omega) only [mX7_theorem, ik, mX6_lines, h6, ↓bnd_e, ↓ob_s, ob_s, su_1, su_2, sl_1, sl_2, ↓ck_n, ck_n, ck_Z0, ck_Z1, c_lt, c_le, c_eq, ng_1, m_ne, m_en, m_lt, m_le, m_gt, m_ge, n_add, n_mul, n_sub, n_sm, n_pm, n_0m, n_cl, Nat.reduceEqDiff, ↓reduceIte, nle_T, nle_F, nlt_T, nlt_F, neq_F, neq_T, if_true, if_false, true_and, and_true, Nat.mul_zero, Nat.zero_add, Nat.add_zero, Nat.reduceAdd, Nat.reduceMul, Nat.reduceSub, li_0, li_1, li_2, li_3, li_4, li_5, li_6, li_7, li_8, li_9, li_10, li_11, li_12, li_13, li_14, li_15, li_16, li_20, li_24, li_28, li_31, li_35, li_38, li_40, li_41, li_45, li_48, li_60, li_62, li_63, li_97, li_100, li_104, li_105, li_120, li_124, li_127, li_180, li_239, li_240, li_255, li_256, li_300, li_400, li_960, li_1000000], e8, kτ _⟩
  · rw [g5, ← e26] at e8
    exact ⟨_, _, by simp (implicitDefEqProofs := false) (disch := omega) only [mX7_theorem, ik, mX6_needed, h6, ↓bnd_e, ↓ob_s, ob_s, su_1, su_2, sl_1, sl_2, ↓ck_n, ck_n, ck_Z0, ck_Z1, c_lt, c_le, c_eq, ng_1, m_ne, m_en, m_lt, m_le, m_gt, m_ge, n_add, n_mul, n_sub, n_sm, n_pm, n_0m, n_cl, Nat.reduceEqDiff, ↓reduceIte, nle_T, nle_F, nlt_T, nlt_F, neq_F, neq_T, if_true, if_false, true_and, and_true, Nat.mul_zero, Nat.zero_add, Nat.add_zero, Nat.reduceAdd, Nat.reduceMul, Nat.reduceSub, li_0, li_1, li_2, li_3, li_4, li_5, li_6, li_7, li_8, li_9, li_10, li_11, li_12, li_13, li_14, li_15, li_16, li_20, li_24, li_28, li_31, li_35, li_38, li_40, li_41, li_45, li_48, li_60, li_62, li_63, li_97, li_100, li_104, li_105, li_120, li_124, li_127, li_180, li_239, li_240, li_255, li_256, li_300, li_400, li_960, li_1000000], e8, kτ _⟩
  · rw [g6, ← e27] at e8
    exact ⟨_, _, by simp (implicitDefEqProofs := false) (disch := omega) only [mX7_theorem, ik, mX6_uses, h6, ↓bnd_e, ↓ob_s, ob_s, su_1, su_2, sl_1, sl_2, ↓ck_n, ck_n, ck_Z0, ck_Z1, c_lt, c_le, c_eq, ng_1, m_ne, m_en, m_lt, m_le, m_gt, m_ge, n_add, n_mul, n_sub, n_sm, n_pm, n_0m, n_cl, Nat.reduceEqDiff, ↓reduceIte, nle_T, nle_F, nlt_T, nlt_F, neq_F, neq_T, if_true, if_false, true_and, and_true, Nat.mul_zero, Nat.zero_add, Nat.add_zero, Nat.reduceAdd, Nat.reduceMul, Nat.reduceSub, li_0, li_1, li_2, li_3, li_4, li_5, li_6, li_7, li_8, li_9, li_10, li_11, li_12, li_13, li_14, li_15, li_16, li_20, li_24, li_28, li_31, li_35, li_38, li_40, li_41, li_45, li_48, li_60, li_62, li_63, li_97, li_100, li_104, li_105, li_120, li_124, li_127, li_180, li_239, li_240, li_255, li_256, li_300, li_400, li_960, li_1000000], e8, kτ _⟩
theorem it_rel {T : Nat} {σ τ : St} (hT : T ≤ 16) (h6 : σ.1 6 0 = nI T) (x : Int32) : (∃ t, t < T ∧ x = nI t ∧ mX6_isKnown σ x = some (nI 1) ∧ ∀ s, s.1 10 0 = nI T → mX8_isTheorem s x = some (nI 1)) ∨
    ((∀ t, t < T → x ≠ nI t) ∧ mX6_isKnown σ x = some (nI 0) ∧ ∀ s, s.1 10 0 = nI T → mX8_isTheorem s x = some (nI 0)) := by
  rcases x8_in1 x T (by omega) with ⟨j, hj, rfl, h1⟩ | ⟨h1, h2⟩
  · refine Or.inl ⟨j, hj, rfl, by simp (implicitDefEqProofs := false) (disch := omega) only [mX6_isKnown, h6, ↓bnd_e, ↓ob_s, ob_s, su_1, su_2, sl_1, sl_2, ↓ck_n, ck_n, ck_Z0, ck_Z1, c_lt, c_le, c_eq, ng_1, m_ne, m_en, m_lt, m_le, m_gt, m_ge, n_add, n_mul, n_sub, n_sm, n_pm, n_0m, n_cl, Nat.reduceEqDiff, ↓reduceIte, nle_T, nle_F, nlt_T, nlt_F, neq_F, neq_T, if_true, if_false, true_and, and_true, Nat.mul_zero, Nat.zero_add, Nat.add_zero, Nat.reduceAdd, Nat.reduceMul, Nat.reduceSub, li_0, li_1, li_2, li_3, li_4, li_5, li_6, li_7, li_8, li_9, li_10, li_11, li_12, li_13, li_14, li_15, li_16, li_20, li_24, li_28, li_31, li_35, li_38, li_40, li_41, li_45, li_48, li_60, li_62, li_63, li_97, li_100, li_104, li_105, li_120, li_124, li_127, li_180, li_239, li_240, li_255, li_256, li_300, li_400, li_960, li_1000000], fun s hs => ?_⟩
    simp only [mX8_isTheorem, li_0, li_1, hs, h1, ob_s, ck_Z1]
  · refine Or.inr ⟨fun t ht e => ?_, ?_, fun s hs => ?_⟩
    · subst e
      rcases h1 with h1 | ⟨_, h1, _⟩
      · rw [c_lt (by omega) (by omega)] at h1; omega
      · rw [c_le (by omega) (by omega)] at h1; omega
    · rcases h1 with h1 | ⟨h1, h3, _⟩
      · simp (implicitDefEqProofs := false) (disch := omega) only [mX6_isKnown, h1, ↓bnd_e, ↓ob_s, ob_s, su_1, su_2, sl_1, sl_2, ↓ck_n, ck_n, ck_Z0, ck_Z1, c_lt, c_le, c_eq, ng_1, m_ne, m_en, m_lt, m_le, m_gt, m_ge, n_add, n_mul, n_sub, n_sm, n_pm, n_0m, n_cl, Nat.reduceEqDiff, ↓reduceIte, nle_T, nle_F, nlt_T, nlt_F, neq_F, neq_T, if_true, if_false, true_and, and_true, Nat.mul_zero, Nat.zero_add, Nat.add_zero, Nat.reduceAdd, Nat.reduceMul, Nat.reduceSub, li_0, li_1, li_2, li_3, li_4, li_5, li_6, li_7, li_8, li_9, li_10, li_11, li_12, li_13, li_14, li_15, li_16, li_20, li_24, li_28, li_31, li_35, li_38, li_40, li_41, li_45, li_48, li_60, li_62, li_63, li_97, li_100, li_104, li_105, li_120, li_124, li_127, li_180, li_239, li_240, li_255, li_256, li_300, li_400, li_960, li_1000000]
      · simp (implicitDefEqProofs := false) (disch := omega) only [mX6_isKnown, h6, h1, h3, ↓bnd_e, ↓ob_s, ob_s, su_1, su_2, sl_1, sl_2, ↓ck_n, ck_n, ck_Z0, ck_Z1, c_lt, c_le, c_eq, ng_1, m_ne, m_en, m_lt, m_le, m_gt, m_ge, n_add, n_mul, n_sub, n_sm, n_pm, n_0m, n_cl, Nat.reduceEqDiff, ↓reduceIte, nle_T, nle_F, nlt_T, nlt_F, neq_F, neq_T, if_true, if_false, true_and, and_true, Nat.mul_zero, Nat.zero_add, Nat.add_zero, Nat.reduceAdd, Nat.reduceMul, Nat.reduceSub, li_0, li_1, li_2, li_3, li_4, li_5, li_6, li_7, li_8, li_9, li_10, li_11, li_12, li_13, li_14, li_15, li_16, li_20, li_24, li_28, li_31, li_35, li_38, li_40, li_41, li_45, li_48, li_60, li_62, li_63, li_97, li_100, li_104, li_105, li_120, li_124, li_127, li_180, li_239, li_240, li_255, li_256, li_300, li_400, li_960, li_1000000]
    · simp only [mX8_isTheorem, li_0, li_1, hs, h2, ob_s, ck_Z0]
theorem P_theorem {σ τ : St} (h : RR σ τ) (p1 p2 : Int32) : (∃ (r : Int32) (τ' : St), mX7_theorem σ p1 p2 = some r ∧ mX8_theorem τ p1 p2 = some (r, τ') ∧ τ'.1 0 0 = 0 ∧ RR σ τ') ∨ (∃ (v : Int32) (τ' : St), tX7_theorem σ p1 p2 = some 3 ∧ mX8_theorem τ p1 p2 = some (v, τ') ∧ τ'.1 0 0 = 1 ∧ RR σ τ') := by
  have h0 := h
  have hR2 := fun v w => RR_thr (RR_thr h v) w
  obtain ⟨F, T, hf, ht, hp, hh, hv⟩ := h
  have kz : KE [0] τ (su τ 0 (fun _ => nI 0)) := KE.rf.s (by decide)
  have hh' : RH F T σ (su τ 0 (fun _ => nI 0)) := hh.c (Nat.le_refl _) (fun _ _ => rfl) (.k kz (by decide))
  rcases it_rel (τ := τ) hh.1.1 hh.1.2.1 p1 with ⟨t, ht, rfl, k1, k8⟩ | ⟨_, k1, k8⟩
  · have k8' := k8 (su τ 0 (fun _ => nI 0)) hh.1.2.2
    rcases x8_in p2 6 (by omega) with ⟨w, hw, rfl, g1⟩ | ⟨g0, gx, g2⟩
    · obtain ⟨r, τ', e1, e2, e3⟩ := theo_told hf.le hh' ht hw
      refine Or.inl ⟨r, τ', e1, ?_, by rw [e3 0 (by decide)]; rfl, RR_qt h0 KE.rf rfl ((kz.wk (by decide)).tr (e3.wk (by decide)))⟩
      simp only [mX8_theorem, li_0, li_1, li_6, bnd_e, k8', g1, e2, ob_s]
      exact if_neg (by decide)
    · refine Or.inr ⟨nI 0, su (su τ 0 (fun _ => nI 0)) 0 (fun _ => nI 1), ?_, ?_, rfl, hR2 _ _⟩
      · rcases ix3 p2 7 (by omega) with ⟨h, h'⟩ | ⟨h, h', _, h2, h3⟩ | ⟨j, hj, rfl⟩
        · simp (implicitDefEqProofs := false) (disch := omega) only [tX7_theorem, k1, h, ↓bnd_e, ↓ob_s, ob_s, su_1, su_2, sl_1, sl_2, ↓ck_n, ck_n, ck_Z0, ck_Z1, c_lt, c_le, c_eq, ng_1, m_ne, m_en, m_lt, m_le, m_gt, m_ge, n_add, n_mul, n_sub, n_sm, n_pm, n_0m, n_cl, Nat.reduceEqDiff, ↓reduceIte, nle_T, nle_F, nlt_T, nlt_F, neq_F, neq_T, if_true, if_false, true_and, and_true, Nat.mul_zero, Nat.zero_add, Nat.add_zero, Nat.reduceAdd, Nat.reduceMul, Nat.reduceSub, li_0, li_1, li_2, li_3, li_4, li_5, li_6, li_7, li_8, li_9, li_10, li_11, li_12, li_13, li_14, li_15, li_16, li_20, li_24, li_28, li_31, li_35, li_38, li_40, li_41, li_45, li_48, li_60, li_62, li_63, li_97, li_100, li_104, li_105, li_120, li_124, li_127, li_180, li_239, li_240, li_255, li_256, li_300, li_400, li_960, li_1000000]
        · have := (h2 6 (by omega)).2.1
          simp (implicitDefEqProofs := false) (disch := omega) only [tX7_theorem, k1, h, this, ↓bnd_e, ↓ob_s, ob_s, su_1, su_2, sl_1, sl_2, ↓ck_n, ck_n, ck_Z0, ck_Z1, c_lt, c_le, c_eq, ng_1, m_ne, m_en, m_lt, m_le, m_gt, m_ge, n_add, n_mul, n_sub, n_sm, n_pm, n_0m, n_cl, Nat.reduceEqDiff, ↓reduceIte, nle_T, nle_F, nlt_T, nlt_F, neq_F, neq_T, if_true, if_false, true_and, and_true, Nat.mul_zero, Nat.zero_add, Nat.add_zero, Nat.reduceAdd, Nat.reduceMul, Nat.reduceSub, li_0, li_1, li_2, li_3, li_4, li_5, li_6, li_7, li_8, li_9, li_10, li_11, li_12, li_13, li_14, li_15, li_16, li_20, li_24, li_28, li_31, li_35, li_38, li_40, li_41, li_45, li_48, li_60, li_62, li_63, li_97, li_100, li_104, li_105, li_120, li_124, li_127, li_180, li_239, li_240, li_255, li_256, li_300, li_400, li_960, li_1000000]
        · exact (gx ⟨j, by omega, rfl⟩).elim
      · simp only [mX8_theorem, mX8_theorem_32, mX8_no, li_0, li_1, li_6, bnd_e, k8', g2, ob_s, ↓reduceIte]
        exact if_neg (by decide)
  · have k8' := k8 (su τ 0 (fun _ => nI 0)) hh.1.2.2
    refine Or.inr ⟨nI 0, su (su τ 0 (fun _ => nI 0)) 0 (fun _ => nI 1), ?_, ?_, rfl, hR2 _ _⟩
    · simp (implicitDefEqProofs := false) (disch := omega) only [tX7_theorem, k1, ↓bnd_e, ↓ob_s, ob_s, su_1, su_2, sl_1, sl_2, ↓ck_n, ck_n, ck_Z0, ck_Z1, c_lt, c_le, c_eq, ng_1, m_ne, m_en, m_lt, m_le, m_gt, m_ge, n_add, n_mul, n_sub, n_sm, n_pm, n_0m, n_cl, Nat.reduceEqDiff, ↓reduceIte, nle_T, nle_F, nlt_T, nlt_F, neq_F, neq_T, if_true, if_false, true_and, and_true, Nat.mul_zero, Nat.zero_add, Nat.add_zero, Nat.reduceAdd, Nat.reduceMul, Nat.reduceSub, li_0, li_1, li_2, li_3, li_4, li_5, li_6, li_7, li_8, li_9, li_10, li_11, li_12, li_13, li_14, li_15, li_16, li_20, li_24, li_28, li_31, li_35, li_38, li_40, li_41, li_45, li_48, li_60, li_62, li_63, li_97, li_100, li_104, li_105, li_120, li_124, li_127, li_180, li_239, li_240, li_255, li_256, li_300, li_400, li_960, li_1000000]
    · simp only [mX8_theorem, mX8_theorem_32, mX8_no, li_0, li_1, li_6, bnd_e, k8', ob_s, ↓reduceIte]
theorem nn_ok {z : UInt64} (h : FP.Core.dIsNaN z = false) : z &&& 0x7fffffffffffffff ≤ 0x7ff0000000000000 := by
  rw [← Bool.not_eq_true, FP.Core.isNaN_bits] at h
  rw [UInt64.le_iff_toNat_le, UInt64.toNat_and]
  have e : (0x7fffffffffffffff : UInt64).toNat = 2 ^ 63 - 1 := by decide
  have e2 : (0x7ff0000000000000 : UInt64).toNat = 9218868437227405312 := by decide
  rw [e, e2, Nat.and_two_pow_sub_one_eq_mod]
  omega
theorem ck_N {β : Type} (x : Option β) (p a : Nat) (ha : 0 < a) (ha2 : a < 2147483648) : chkN (FP.ddiv (FP.i2d (nI p)) (FP.i2d (nI a))) x = x := by
  unfold chkN
  rw [if_pos]
  refine nn_ok (FP.Core.ddiv_out (a := FP.i2d (nI p)) (b := FP.i2d (nI a)) ?_ (FP.Core.i2d_fin (nI a)) ?_)
  · rw [FP.Core.notNaN_iff]; exact (FP.Core.i2d_fin (nI p)).ne_nan
  · rw [FP.Core.zero_bits2]
    exact FP.Core.i2d_ne_zero (nI_ne0 ha (by omega))
theorem thrift_l {F T : Nat} {σ τ : St} (h : RH F T σ τ) : ∀ d t n n' p a, t + d = T → d < n → d < n' → t ≤ a → a ≤ 60 * t → ∃ r, mX6_neededShare_6 n σ (nI p) (nI a) (nI t) = some r ∧ mX8_thrift_11 n' τ (nI a) (nI p) (nI t) = some (r, τ) := by
  have hT := h.1.1
  have h6 := h.1.2.1
  have h10 := h.1.2.2
  intro d
  induction d with
  | zero =>
    intro t n n' p a ht hn hn' h1 h2
    obtain ⟨n, rfl⟩ : ∃ m, n = m + 1 := ⟨n - 1, by omega⟩
    obtain ⟨n', rfl⟩ : ∃ m, n' = m + 1 := ⟨n' - 1, by omega⟩
    have e : t = T := by omega
    subst e
    by_cases h0 : t = 0
    · subst h0
      have : a = 0 := by omega
      subst this
      refine ⟨FP.dconst1, ?_, ?_⟩
      · simp (implicitDefEqProofs := false) (disch := omega) only [fx_s, bX6_neededShare_6, mX6_neededShare_44, h6, ↓bnd_e, ↓ob_s, ob_s, su_1, su_2, sl_1, sl_2, ↓ck_n, ck_n, ck_Z0, ck_Z1, c_lt, c_le, c_eq, ng_1, m_ne, m_en, m_lt, m_le, m_gt, m_ge, n_add, n_mul, n_sub, n_sm, n_pm, n_0m, n_cl, Nat.reduceEqDiff, ↓reduceIte, nle_T, nle_F, nlt_T, nlt_F, neq_F, neq_T, if_true, if_false, true_and, and_true, Nat.mul_zero, Nat.zero_add, Nat.add_zero, Nat.reduceAdd, Nat.reduceMul, Nat.reduceSub, li_0, li_1, li_2, li_3, li_4, li_5, li_6, li_7, li_8, li_9, li_10, li_11, li_12, li_13, li_14, li_15, li_16, li_20, li_24, li_28, li_31, li_35, li_38, li_40, li_41, li_45, li_48, li_60, li_62, li_63, li_97, li_100, li_104, li_105, li_120, li_124, li_127, li_180, li_239, li_240, li_255, li_256, li_300, li_400, li_960, li_1000000]
      · simp (implicitDefEqProofs := false) (disch := omega) only [fx_s, bX8_thrift_11, mX8_thrift_43, h10, ↓bnd_e, ↓ob_s, ob_s, su_1, su_2, sl_1, sl_2, ↓ck_n, ck_n, ck_Z0, ck_Z1, c_lt, c_le, c_eq, ng_1, m_ne, m_en, m_lt, m_le, m_gt, m_ge, n_add, n_mul, n_sub, n_sm, n_pm, n_0m, n_cl, Nat.reduceEqDiff, ↓reduceIte, nle_T, nle_F, nlt_T, nlt_F, neq_F, neq_T, if_true, if_false, true_and, and_true, Nat.mul_zero, Nat.zero_add, Nat.add_zero, Nat.reduceAdd, Nat.reduceMul, Nat.reduceSub, li_0, li_1, li_2, li_3, li_4, li_5, li_6, li_7, li_8, li_9, li_10, li_11, li_12, li_13, li_14, li_15, li_16, li_20, li_24, li_28, li_31, li_35, li_38, li_40, li_41, li_45, li_48, li_60, li_62, li_63, li_97, li_100, li_104, li_105, li_120, li_124, li_127, li_180, li_239, li_240, li_255, li_256, li_300, li_400, li_960, li_1000000]
    · have ck := fun (x : Option UInt64) => ck_N x p a (by omega) (by omega)
      have ck2 := fun (x : Option (UInt64 × St)) => ck_N x p a (by omega) (by omega)
      refine ⟨FP.ddiv (FP.i2d (nI p)) (FP.i2d (nI a)), ?_, ?_⟩
      · simp (implicitDefEqProofs := false) (disch := omega) only [fx_s, bX6_neededShare_6, mX6_neededShare_44, h6, ck, ↓bnd_e, ↓ob_s, ob_s, su_1, su_2, sl_1, sl_2, ↓ck_n, ck_n, ck_Z0, ck_Z1, c_lt, c_le, c_eq, ng_1, m_ne, m_en, m_lt, m_le, m_gt, m_ge, n_add, n_mul, n_sub, n_sm, n_pm, n_0m, n_cl, Nat.reduceEqDiff, ↓reduceIte, nle_T, nle_F, nlt_T, nlt_F, neq_F, neq_T, if_true, if_false, true_and, and_true, Nat.mul_zero, Nat.zero_add, Nat.add_zero, Nat.reduceAdd, Nat.reduceMul, Nat.reduceSub, li_0, li_1, li_2, li_3, li_4, li_5, li_6, li_7, li_8, li_9, li_10, li_11, li_12, li_13, li_14, li_15, li_16, li_20, li_24, li_28, li_31, li_35, li_38, li_40, li_41, li_45, li_48, li_60, li_62, li_63, li_97, li_100, li_104, li_105, li_120, li_124, li_127, li_180, li_239, li_240, li_255, li_256, li_300, li_400, li_960, li_1000000]
      · simp (implicitDefEqProofs := false) (disch := omega) only [fx_s, bX8_thrift_11, mX8_thrift_43, h10, ck2, ↓bnd_e, ↓ob_s, ob_s, su_1, su_2, sl_1, sl_2, ↓ck_n, ck_n, ck_Z0, ck_Z1, c_lt, c_le, c_eq, ng_1, m_ne, m_en, m_lt, m_le, m_gt, m_ge, n_add, n_mul, n_sub, n_sm, n_pm, n_0m, n_cl, Nat.reduceEqDiff, ↓reduceIte, nle_T, nle_F, nlt_T, nlt_F, neq_F, neq_T, if_true, if_false, true_and, and_true, Nat.mul_zero, Nat.zero_add, Nat.add_zero, Nat.reduceAdd, Nat.reduceMul, Nat.reduceSub, li_0, li_1, li_2, li_3, li_4, li_5, li_6, li_7, li_8, li_9, li_10, li_11, li_12, li_13, li_14, li_15, li_16, li_20, li_24, li_28, li_31, li_35, li_38, li_40, li_41, li_45, li_48, li_60, li_62, li_63, li_97, li_100, li_104, li_105, li_120, li_124, li_127, li_180, li_239, li_240, li_255, li_256, li_300, li_400, li_960, li_1000000]
  | succ d ih =>
    intro t n n' p a ht hn hn' h1 h2
    obtain ⟨n, rfl⟩ : ∃ m, n = m + 1 := ⟨n - 1, by omega⟩
    obtain ⟨n', rfl⟩ : ∃ m, n' = m + 1 := ⟨n' - 1, by omega⟩
    obtain ⟨_, e25, e26, _⟩ := h.2.1
    obtain ⟨_, _, _, _, x, y, x1, x2, x3, x4, x5⟩ := h.2.2 t (by omega)
    obtain ⟨r, r1, r2⟩ := ih (t + 1) n n' (p + y) (a + x) (by omega) (by omega) (by omega) (by omega) (by omega)
    have s25 : σ.1 25 t = nI x := by rw [e25]; exact x4
    have s26 : σ.1 26 t = nI y := by rw [e26]; exact x5
    refine ⟨r, ?_, ?_⟩
    · rw [← r1]
      simp (implicitDefEqProofs := false) (disch := omega) only [fx_s, bX6_neededShare_6, h6, s25, s26, ↓bnd_e, ↓ob_s, ob_s, su_1, su_2, sl_1, sl_2, ↓ck_n, ck_n, ck_Z0, ck_Z1, c_lt, c_le, c_eq, ng_1, m_ne, m_en, m_lt, m_le, m_gt, m_ge, n_add, n_mul, n_sub, n_sm, n_pm, n_0m, n_cl, Nat.reduceEqDiff, ↓reduceIte, nle_T, nle_F, nlt_T, nlt_F, neq_F, neq_T, if_true, if_false, true_and, and_true, Nat.mul_zero, Nat.zero_add, Nat.add_zero, Nat.reduceAdd, Nat.reduceMul, Nat.reduceSub, li_0, li_1, li_2, li_3, li_4, li_5, li_6, li_7, li_8, li_9, li_10, li_11, li_12, li_13, li_14, li_15, li_16, li_20, li_24, li_28, li_31, li_35, li_38, li_40, li_41, li_45, li_48, li_60, li_62, li_63, li_97, li_100, li_104, li_105, li_120, li_124, li_127, li_180, li_239, li_240, li_255, li_256, li_300, li_400, li_960, li_1000000]
    · rw [← r2]
      simp (implicitDefEqProofs := false) (disch := omega) only [fx_s, bX8_thrift_11, h10, x4, x5, ↓bnd_e, ↓ob_s, ob_s, su_1, su_2, sl_1, sl_2, ↓ck_n, ck_n, ck_Z0, ck_Z1, c_lt, c_le, c_eq, ng_1, m_ne, m_en, m_lt, m_le, m_gt, m_ge, n_add, n_mul, n_sub, n_sm, n_pm, n_0m, n_cl, Nat.reduceEqDiff, ↓reduceIte, nle_T, nle_F, nlt_T, nlt_F, neq_F, neq_T, if_true, if_false, true_and, and_true, Nat.mul_zero, Nat.zero_add, Nat.add_zero, Nat.reduceAdd, Nat.reduceMul, Nat.reduceSub, li_0, li_1, li_2, li_3, li_4, li_5, li_6, li_7, li_8, li_9, li_10, li_11, li_12, li_13, li_14, li_15, li_16, li_20, li_24, li_28, li_31, li_35, li_38, li_40, li_41, li_45, li_48, li_60, li_62, li_63, li_97, li_100, li_104, li_105, li_120, li_124, li_127, li_180, li_239, li_240, li_255, li_256, li_300, li_400, li_960, li_1000000]
theorem P_thrift {σ τ : St} (h : RR σ τ) : ∃ (r : UInt64) (τ' : St), mX7_thrift σ = some r ∧ mX8_thrift τ = some (r, τ') ∧ RR σ τ' := by
  have h0 := h
  obtain ⟨F, T, hf, ht, hp, hh, hv⟩ := h
  have kz : KE [0] τ (su τ 0 (fun _ => nI 0)) := KE.rf.s (by decide)
  have hh' : RH F T σ (su τ 0 (fun _ => nI 0)) := hh.c (Nat.le_refl _) (fun _ _ => rfl) (.k kz (by decide))
  obtain ⟨r, r1, r2⟩ := thrift_l hh' T 0 NF NF 0 0 (by omega) (by have := hh.1.1; show T < 1000; omega) (by have := hh.1.1; show T < 1000; omega) (by omega) (by omega)
  refine ⟨r, su τ 0 (fun _ => nI 0), ?_, ?_, RR_thr h0 _⟩
  · simp only [mX7_thrift, mX6_neededShare, li_0, r1, ob_s]
  · simp only [mX8_thrift, li_0, r2, bnd_e]
