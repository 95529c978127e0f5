theorem RH_use {F T t : Nat} {σ τ : St} (h : RH F T σ τ) : RH F T (su σ 27 (upd (σ.1 27) t (σ.1 27 t + nI 1))) (su τ 34 (upd (τ.1 34) t (τ.1 34 t + nI 1))) := by
  obtain ⟨a, ⟨e22, e25, e26, e27⟩, d⟩ := h
  refine ⟨a, ⟨e22, e25, e26, ?_⟩, fun t' ht' => d t' ht'⟩
  show upd (σ.1 27) t (σ.1 27 t + nI 1) = upd (τ.1 34) t (τ.1 34 t + nI 1)
  rw [e27]
theorem kd_ne : ∀ r, r < 13 → KT.getD (3 * r + 0) 0 ≠ 0 := by decide +kernel
theorem zr_0 {r m : Nat} (hr : r ≤ 13) (x : Int32) : zr (kdM r m 0) x = x := by
  unfold zr
  rw [if_neg]
  unfold kdM
  by_cases h : r = 13
  · rw [if_pos h, if_pos rfl]; omega
  · rw [if_neg h]; exact kd_ne r (by omega)
theorem step_114 {τ τ1 : St} {r f N K1 K2 : Nat} {p3 p4 p5 : Int32} (hr : r ≤ 13) (hk1 : K1 ≤ 3) (hk2 : K2 ≤ 3) {L : Nat} (hL : L < 60) (a6 : τ.1 6 0 = nI L) (i1 : ∀ t, mX8_isIn t (nI r) (nI 0) (nI 13) = some (nI 1)) (k8' : mX8_isFormula (su τ 0 (fun _ => nI 0)) (nI f) = some (nI 1))
    (e2 : mX8_refusal (su τ 0 (fun _ => nI 0)) (nI r) (nI f) p3 p4 p5 = some (nI 0, τ1)) (n1 : mX8_needs τ1 (nI r) p3 = some (nI N)) (d2 : nI N / nI 10 - nI N / nI 10 / nI 10 * nI 10 = nI K1) (d3 : nI N - nI N / nI 10 * nI 10 = nI K2) :
    mX8_step τ (nI r) (nI f) p3 p4 p5 = mX8_step_114 τ1 (nI r) p3 (zr K2 p5) (zr K1 p4) p3 (nI r) (nI f) := by
  by_cases h1 : K1 = 0
  · have z1 : zr K1 p4 = nI 0 := if_pos h1
    by_cases h2 : K2 = 0
    · have z2 : zr K2 p5 = nI 0 := if_pos h2
      rw [z1, z2]
      simp (implicitDefEqProofs := false) (disch := omega) only [mX8_step, mX8_step_100, i1, k8', a6, e2, n1, d2, d3, ↓bnd_e, ↓ob_s, ob_s, su_1, su_2, sl_1, sl_2, ↓ck_n, ck_n, ck_Z0, ck_Z1, c_lt, c_le, c_eq, ng_1, m_ne, m_en, m_lt, m_le, m_gt, m_ge, n_add, n_mul, n_sub, n_sm, n_pm, n_0m, n_cl, Nat.reduceEqDiff, ↓reduceIte, nle_T, nle_F, nlt_T, nlt_F, neq_F, neq_T, if_true, if_false, true_and, and_true, Nat.mul_zero, Nat.zero_add, Nat.add_zero, Nat.reduceAdd, Nat.reduceMul, Nat.reduceSub, li_0, li_1, li_2, li_3, li_4, li_5, li_6, li_7, li_8, li_9, li_10, li_11, li_12, li_13, li_14, li_15, li_16, li_20, li_24, li_28, li_31, li_35, li_38, li_40, li_41, li_45, li_48, li_60, li_62, li_63, li_97, li_100, li_104, li_105, li_120, li_124, li_127, li_180, li_239, li_240, li_255, li_256, li_300, li_400, li_960, li_1000000]
    · have z2 : zr K2 p5 = p5 := if_neg h2
      rw [z1, z2]
      simp (implicitDefEqProofs := false) (disch := omega) only [mX8_step, mX8_step_100, i1, k8', a6, e2, n1, d2, d3, ↓bnd_e, ↓ob_s, ob_s, su_1, su_2, sl_1, sl_2, ↓ck_n, ck_n, ck_Z0, ck_Z1, c_lt, c_le, c_eq, ng_1, m_ne, m_en, m_lt, m_le, m_gt, m_ge, n_add, n_mul, n_sub, n_sm, n_pm, n_0m, n_cl, Nat.reduceEqDiff, ↓reduceIte, nle_T, nle_F, nlt_T, nlt_F, neq_F, neq_T, if_true, if_false, true_and, and_true, Nat.mul_zero, Nat.zero_add, Nat.add_zero, Nat.reduceAdd, Nat.reduceMul, Nat.reduceSub, li_0, li_1, li_2, li_3, li_4, li_5, li_6, li_7, li_8, li_9, li_10, li_11, li_12, li_13, li_14, li_15, li_16, li_20, li_24, li_28, li_31, li_35, li_38, li_40, li_41, li_45, li_48, li_60, li_62, li_63, li_97, li_100, li_104, li_105, li_120, li_124, li_127, li_180, li_239, li_240, li_255, li_256, li_300, li_400, li_960, li_1000000]
  · have z1 : zr K1 p4 = p4 := if_neg h1
    by_cases h2 : K2 = 0
    · have z2 : zr K2 p5 = nI 0 := if_pos h2
      rw [z1, z2]
      simp (implicitDefEqProofs := false) (disch := omega) only [mX8_step, mX8_step_100, i1, k8', a6, e2, n1, d2, d3, ↓bnd_e, ↓ob_s, ob_s, su_1, su_2, sl_1, sl_2, ↓ck_n, ck_n, ck_Z0, ck_Z1, c_lt, c_le, c_eq, ng_1, m_ne, m_en, m_lt, m_le, m_gt, m_ge, n_add, n_mul, n_sub, n_sm, n_pm, n_0m, n_cl, Nat.reduceEqDiff, ↓reduceIte, nle_T, nle_F, nlt_T, nlt_F, neq_F, neq_T, if_true, if_false, true_and, and_true, Nat.mul_zero, Nat.zero_add, Nat.add_zero, Nat.reduceAdd, Nat.reduceMul, Nat.reduceSub, li_0, li_1, li_2, li_3, li_4, li_5, li_6, li_7, li_8, li_9, li_10, li_11, li_12, li_13, li_14, li_15, li_16, li_20, li_24, li_28, li_31, li_35, li_38, li_40, li_41, li_45, li_48, li_60, li_62, li_63, li_97, li_100, li_104, li_105, li_120, li_124, li_127, li_180, li_239, li_240, li_255, li_256, li_300, li_400, li_960, li_1000000]
    · have z2 : zr K2 p5 = p5 := if_neg h2
      rw [z1, z2]
      simp (implicitDefEqProofs := false) (disch := omega) only [mX8_step, mX8_step_100, i1, k8', a6, e2, n1, d2, d3, ↓bnd_e, ↓ob_s, ob_s, su_1, su_2, sl_1, sl_2, ↓ck_n, ck_n, ck_Z0, ck_Z1, c_lt, c_le, c_eq, ng_1, m_ne, m_en, m_lt, m_le, m_gt, m_ge, n_add, n_mul, n_sub, n_sm, n_pm, n_0m, n_cl, Nat.reduceEqDiff, ↓reduceIte, nle_T, nle_F, nlt_T, nlt_F, neq_F, neq_T, if_true, if_false, true_and, and_true, Nat.mul_zero, Nat.zero_add, Nat.add_zero, Nat.reduceAdd, Nat.reduceMul, Nat.reduceSub, li_0, li_1, li_2, li_3, li_4, li_5, li_6, li_7, li_8, li_9, li_10, li_11, li_12, li_13, li_14, li_15, li_16, li_20, li_24, li_28, li_31, li_35, li_38, li_40, li_41, li_45, li_48, li_60, li_62, li_63, li_97, li_100, li_104, li_105, li_120, li_124, li_127, li_180, li_239, li_240, li_255, li_256, li_300, li_400, li_960, li_1000000]
theorem P_step {σ τ : St} (h : RR σ τ) (p1 p2 p3 p4 p5 : Int32) : (∃ (r : Int32) (σ' : St) (τ' : St), mX7_step σ p1 p2 p3 p4 p5 = some (r, σ') ∧ mX8_step τ p1 p2 p3 p4 p5 = some (r, τ') ∧ τ'.1 0 0 = 0 ∧ RR σ' τ') ∨ (∃ (v : Int32) (σ' : St) (τ' : St), tX7_step σ p1 p2 p3 p4 p5 = some (2, σ') ∧ mX8_step τ p1 p2 p3 p4 p5 = some (v, τ') ∧ τ'.1 0 0 = 1 ∧ RR σ' τ') ∨ (∃ (v : Int32) (σ' : St) (τ' : St), tX7_step σ p1 p2 p3 p4 p5 = some (3, σ') ∧ mX8_step τ p1 p2 p3 p4 p5 = some (v, τ') ∧ τ'.1 0 0 = 2 ∧ RR σ' τ') ∨ (∃ (v : Int32) (σ' : St) (τ' : St), tX7_step σ p1 p2 p3 p4 p5 = some (1, σ') ∧ mX8_step τ p1 p2 p3 p4 p5 = some (v, τ') ∧ τ'.1 0 0 = 3 ∧ RR σ' τ') := by
  have h0 := h
  have hR2 := fun v w => RR_thr (RR_thr h v) w
  obtain ⟨F, T, hf, ht, hp, hh, L, B, n, O, ⟨a8, a6, a1, a2, a7, a9, a3, a4⟩, b1, c1, d1, hH⟩ := h
  have hI := hH.inv
  have hL60 := hI.1.1
  have hT := hh.1.1
  have hV : VV F T L B O σ τ := ⟨⟨a8, a6, a1, a2, a3, a4⟩, b1, d1, hI⟩
  have kz : KE [0] τ (su τ 0 (fun _ => nI 0)) := KE.rf.s (by decide)
  have hV' : VV F T L B O σ (su τ 0 (fun _ => nI 0)) := hV.k hh.1.1 (KE.rf (l := [])) kz (by decide) (by decide)
  have hf' : RF F σ (su τ 0 (fun _ => nI 0)) := hf.c (fun _ _ => rfl) rfl (.k kz (by decide))
  have hh' : RH F T σ (su τ 0 (fun _ => nI 0)) := hh.c (Nat.le_refl _) (fun _ _ => rfl) (.k kz (by decide))
  have z5 : (su τ 0 (fun _ => nI 0)).1 5 0 = nI F := hf.1.2.2
  rcases x8_in p1 13 (by omega) with ⟨r, hr, rfl, i1⟩ | ⟨i0, ix, i2⟩
  · rcases kn_rel hf p2 with ⟨f, hff, rfl, k1, k8⟩ | ⟨k1, k8⟩
    · have k8' := k8 _ z5
      by_cases hL : L < 60
      · obtain ⟨why, σ1, τ1, m, w1, e1, e2, kσ1, q2, kτ1, hw⟩ := refusal_rel hV' hf' hh' hr hff p3 p4 p5
        have kτ1' : KE [0, 39] τ τ1 := (kz.wk (by decide)).tr (kτ1.wk (by decide))
        by_cases w0 : why = 0
        · subst w0
          obtain ⟨hm, R0, R1, R2⟩ := hw rfl
          have hm1 : r = 13 → (∃ t, t < T ∧ p3 = nI t ∧ m ≤ 2 ∧ τ1.1 30 t = nI m) ∧ mX6_premises σ1 p3 = some (nI m) := fun h13 => by
            obtain ⟨⟨t, t1, t2, t3, t4⟩, t5⟩ := hm h13
            exact ⟨⟨t, t1, t2, t3, by rw [kτ1 30 (by decide)]; exact t4⟩, by rw [prem_c (kσ1 6 (by decide)) (kσ1 23 (by decide)) (kσ1 24 (by decide))]; exact t5⟩
          have b1' : σ1.1 29 = τ1.1 21 ∧ σ1.1 30 = τ1.1 22 ∧ σ1.1 31 = τ1.1 23 ∧ σ1.1 33 = τ1.1 24 ∧ σ1.1 36 = τ1.1 25 ∧ σ1.1 37 = τ1.1 26 ∧ σ1.1 38 = τ1.1 27 := by
            rw [kσ1 29 (by decide), kσ1 30 (by decide), kσ1 31 (by decide), kσ1 33 (by decide), kσ1 36 (by decide), kσ1 37 (by decide), kσ1 38 (by decide), kτ1' 21 (by decide), kτ1' 22 (by decide), kτ1' 23 (by decide), kτ1' 24 (by decide), kτ1' 25 (by decide), kτ1' 26 (by decide), kτ1' 27 (by decide)]
            exact b1
          have hH1 : Hist F T τ1.1 n L B O (τ1.1 8 0) (τ1.1 26) := by
            rw [kτ1' 8 (by decide), kτ1' 26 (by decide)]
            exact hH.k hh.1.1 kτ1' (by decide)
          have d1' : ∀ k, k < L → ∀ r, r ≤ 15 → τ1.1 22 k = nI r → ∀ w, w < 3 → σ1.1 32 (3 * k + w) = nI (kdN τ1.1 r (τ1.1 23 (3 * k)).toNatClampNeg w) := by
            rw [kσ1 32 (by decide), kτ1' 22 (by decide), kτ1' 23 (by decide)]
            intro k hk r hr h22 w hw
            rw [d1 k hk r hr h22 w hw]
            unfold kdN
            rw [kτ1' 30 (by decide)]
          obtain ⟨σ2, τ2, y1, y2, y3, y4, y5, y6⟩ := line_rel (σ := σ1) (τ := τ1) (r := r) (m := m) (a := p3) (b := p4) (c := p5) (f := f) (T := T) (F := F) (L := L) (B := B) (n := n) (O := O) hh.1.1 hff hL (by omega) (by omega)
            (by rw [kσ1 8 (by decide)]; exact a8) (by rw [kτ1' 6 (by decide)]; exact a6) (by rw [kσ1 9 (by decide)]; exact a1) (by rw [kτ1' 7 (by decide)]; exact a2) (by rw [kσ1 7 (by decide)]; exact a7) (by rw [kτ1' 9 (by decide)]; exact a9) (by rw [kσ1 10 (by decide)]; exact a3) (by rw [kσ1 11 (by decide), kτ1' 8 (by decide)]; exact a4)
            b1' (by rw [kσ1 35 (by decide), kτ1' 28 (by decide)]; exact c1) d1' hH1 hm1 (fun h => by omega) (fun w hw => by
              have k26 : τ1.1 26 = τ.1 26 := kτ1' 26 (by decide)
              rw [k26]
              have hw3 : w = 0 ∨ w = 1 ∨ w = 2 := by omega
              rcases hw3 with rfl | rfl | rfl
              · exact ⟨R0.1, R0.2.1⟩
              · exact ⟨R1.1, R1.2.1⟩
              · exact ⟨R2.1, R2.2.1⟩)
          rw [zr_0 hr] at y2
          have h10 : τ1.1 10 0 = nI T := by rw [kτ1' 10 (by decide)]; exact hh.1.2.2
          obtain ⟨N, n0, n1, n2, n3, n4⟩ := x8_needs (τ := τ1) hT h10 (r := r) (by omega) (x := p3) (fun h13 => by
            obtain ⟨⟨t, t1, t2, t3, t4⟩, _⟩ := hm1 h13
            exact ⟨t, t1, t2, m, t3, t4⟩)
          have eK : ∀ w, kdN τ1.1 r p3.toNatClampNeg w = kdM r m w := fun w => by
            unfold kdN kdM
            by_cases h13 : r = 13
            · obtain ⟨⟨t, t1, t2, t3, t4⟩, _⟩ := hm1 h13
              rw [if_pos h13, if_pos h13, t2, n_cl (by omega), t4, n_cl (by omega)]
            · rw [if_neg h13, if_neg h13]
          rw [eK] at n3 n4
          obtain ⟨_, d2, d3⟩ := nd_dig n0
          rw [n3] at d2; rw [n4] at d3
          have e9 := step_114 hr (kdM_3 r m 1 (by omega) (by omega)) (kdM_3 r m 2 (by omega) (by omega)) hL a6 i1 k8' e2 n1 d2 d3
          have kσ2 : KE (28 :: kA) σ σ2 := (kσ1.wk (by decide)).tr (y3.wk (by decide))
          have kτ2 : KE (0 :: 39 :: kB) τ τ2 := (kτ1'.wk (by decide)).tr (y4.wk (by decide))
          have q22 : σ2.2 = σ.2 := y5.trans q2
          have t00 : τ2.1 0 0 = nI 0 := by rw [y4 0 (by decide), kτ1 0 (by decide)]; rfl
          have hRR : RR σ2 τ2 := ⟨F, T, hf.c (.k kσ2 (by decide)) q22 (.k kτ2 (by decide)), ht.c (.k kσ2 (by decide)) (.k kτ2 (by decide)), hp.c (.k kσ2 (by decide)) (.k kτ2 (by decide)), hh.c (Nat.le_refl _) (.k kσ2 (by decide)) (.k kτ2 (by decide)), y6⟩
          by_cases h13 : r = 13
          · obtain ⟨⟨t, t1, t2, t3, t4⟩, _⟩ := hm1 h13
            subst t2
            subst h13
            have s6 : σ2.1 6 0 = nI T := by rw [kσ2 6 (by decide)]; exact hh.1.2.1
            obtain ⟨F', T', g1, g2, g3, g4, g5⟩ := hRR
            refine Or.inl ⟨nI 0, su σ2 27 (upd (σ2.1 27) t (σ2.1 27 t + nI 1)), su τ2 34 (upd (τ2.1 34) t (τ2.1 34 t + nI 1)), ?_, ?_, t00, F', T', g1.c (.k (KE.rf.s (l := [27]) (by decide)) (by decide)) rfl (.k (KE.rf.s (l := [34]) (by decide)) (by decide)), g2.c (.k (KE.rf.s (l := [27]) (by decide)) (by decide)) (.k (KE.rf.s (l := [34]) (by decide)) (by decide)), g3.c (.k (KE.rf.s (l := [27]) (by decide)) (by decide)) (.k (KE.rf.s (l := [34]) (by decide)) (by decide)), RH_use g4, g5.c g4.1.1 (Nat.le_refl _) (.k (KE.rf.s (l := [27]) (by decide)) (by decide)) (.k (KE.rf.s (l := [34]) (by decide)) (by decide))⟩
            · simp (implicitDefEqProofs := false) (disch := omega) only [mX7_step, k1, mX3_lineCount, a8, e1, y1, mX6_noteUse, s6, ↓bnd_e, ↓ob_s, ob_s, su_1, su_2, sl_1, sl_2, ↓ck_n, ck_n, ck_Z0, ck_Z1, c_lt, c_le, c_eq, ng_1, m_ne, m_en, m_lt, m_le, m_gt, m_ge, n_add, n_mul, n_sub, n_sm, n_pm, n_0m, n_cl, Nat.reduceEqDiff, ↓reduceIte, nle_T, nle_F, nlt_T, nlt_F, neq_F, neq_T, if_true, if_false, true_and, and_true, Nat.mul_zero, Nat.zero_add, Nat.add_zero, Nat.reduceAdd, Nat.reduceMul, Nat.reduceSub, li_0, li_1, li_2, li_3, li_4, li_5, li_6, li_7, li_8, li_9, li_10, li_11, li_12, li_13, li_14, li_15, li_16, li_20, li_24, li_28, li_31, li_35, li_38, li_40, li_41, li_45, li_48, li_60, li_62, li_63, li_97, li_100, li_104, li_105, li_120, li_124, li_127, li_180, li_239, li_240, li_255, li_256, li_300, li_400, li_960, li_1000000]
            · rw [e9]
              simp (implicitDefEqProofs := false) (disch := omega) only [mX8_step_114, y2, ↓bnd_e, ↓ob_s, ob_s, su_1, su_2, sl_1, sl_2, ↓ck_n, ck_n, ck_Z0, ck_Z1, c_lt, c_le, c_eq, ng_1, m_ne, m_en, m_lt, m_le, m_gt, m_ge, n_add, n_mul, n_sub, n_sm, n_pm, n_0m, n_cl, Nat.reduceEqDiff, ↓reduceIte, nle_T, nle_F, nlt_T, nlt_F, neq_F, neq_T, if_true, if_false, true_and, and_true, Nat.mul_zero, Nat.zero_add, Nat.add_zero, Nat.reduceAdd, Nat.reduceMul, Nat.reduceSub, li_0, li_1, li_2, li_3, li_4, li_5, li_6, li_7, li_8, li_9, li_10, li_11, li_12, li_13, li_14, li_15, li_16, li_20, li_24, li_28, li_31, li_35, li_38, li_40, li_41, li_45, li_48, li_60, li_62, li_63, li_97, li_100, li_104, li_105, li_120, li_124, li_127, li_180, li_239, li_240, li_255, li_256, li_300, li_400, li_960, li_1000000]
          · refine Or.inl ⟨nI 0, σ2, τ2, ?_, ?_, t00, hRR⟩
            · simp (implicitDefEqProofs := false) (disch := omega) only [mX7_step, k1, mX3_lineCount, a8, e1, y1, ↓bnd_e, ↓ob_s, ob_s, su_1, su_2, sl_1, sl_2, ↓ck_n, ck_n, ck_Z0, ck_Z1, c_lt, c_le, c_eq, ng_1, m_ne, m_en, m_lt, m_le, m_gt, m_ge, n_add, n_mul, n_sub, n_sm, n_pm, n_0m, n_cl, Nat.reduceEqDiff, ↓reduceIte, nle_T, nle_F, nlt_T, nlt_F, neq_F, neq_T, if_true, if_false, true_and, and_true, Nat.mul_zero, Nat.zero_add, Nat.add_zero, Nat.reduceAdd, Nat.reduceMul, Nat.reduceSub, li_0, li_1, li_2, li_3, li_4, li_5, li_6, li_7, li_8, li_9, li_10, li_11, li_12, li_13, li_14, li_15, li_16, li_20, li_24, li_28, li_31, li_35, li_38, li_40, li_41, li_45, li_48, li_60, li_62, li_63, li_97, li_100, li_104, li_105, li_120, li_124, li_127, li_180, li_239, li_240, li_255, li_256, li_300, li_400, li_960, li_1000000]
            · rw [e9]
              simp (implicitDefEqProofs := false) (disch := omega) only [mX8_step_114, y2, ↓bnd_e, ↓ob_s, ob_s, su_1, su_2, sl_1, sl_2, ↓ck_n, ck_n, ck_Z0, ck_Z1, c_lt, c_le, c_eq, ng_1, m_ne, m_en, m_lt, m_le, m_gt, m_ge, n_add, n_mul, n_sub, n_sm, n_pm, n_0m, n_cl, Nat.reduceEqDiff, ↓reduceIte, nle_T, nle_F, nlt_T, nlt_F, neq_F, neq_T, if_true, if_false, true_and, and_true, Nat.mul_zero, Nat.zero_add, Nat.add_zero, Nat.reduceAdd, Nat.reduceMul, Nat.reduceSub, li_0, li_1, li_2, li_3, li_4, li_5, li_6, li_7, li_8, li_9, li_10, li_11, li_12, li_13, li_14, li_15, li_16, li_20, li_24, li_28, li_31, li_35, li_38, li_40, li_41, li_45, li_48, li_60, li_62, li_63, li_97, li_100, li_104, li_105, li_120, li_124, li_127, li_180, li_239, li_240, li_255, li_256, li_300, li_400, li_960, li_1000000]
        · refine Or.inl ⟨nI why, σ1, τ1, ?_, ?_, by rw [kτ1 0 (by decide)]; rfl, h0.c (kσ1.wk (by decide)) q2 (kτ1'.wk (by decide))⟩
          · simp (implicitDefEqProofs := false) (disch := omega) only [mX7_step, k1, mX3_lineCount, a8, e1, ↓bnd_e, ↓ob_s, ob_s, su_1, su_2, sl_1, sl_2, ↓ck_n, ck_n, ck_Z0, ck_Z1, c_lt, c_le, c_eq, ng_1, m_ne, m_en, m_lt, m_le, m_gt, m_ge, n_add, n_mul, n_sub, n_sm, n_pm, n_0m, n_cl, Nat.reduceEqDiff, ↓reduceIte, nle_T, nle_F, nlt_T, nlt_F, neq_F, neq_T, if_true, if_false, true_and, and_true, Nat.mul_zero, Nat.zero_add, Nat.add_zero, Nat.reduceAdd, Nat.reduceMul, Nat.reduceSub, li_0, li_1, li_2, li_3, li_4, li_5, li_6, li_7, li_8, li_9, li_10, li_11, li_12, li_13, li_14, li_15, li_16, li_20, li_24, li_28, li_31, li_35, li_38, li_40, li_41, li_45, li_48, li_60, li_62, li_63, li_97, li_100, li_104, li_105, li_120, li_124, li_127, li_180, li_239, li_240, li_255, li_256, li_300, li_400, li_960, li_1000000]
          · simp (implicitDefEqProofs := false) (disch := omega) only [mX8_step, i1, k8', a6, e2, ↓bnd_e, ↓ob_s, ob_s, su_1, su_2, sl_1, sl_2, ↓ck_n, ck_n, ck_Z0, ck_Z1, c_lt, c_le, c_eq, ng_1, m_ne, m_en, m_lt, m_le, m_gt, m_ge, n_add, n_mul, n_sub, n_sm, n_pm, n_0m, n_cl, Nat.reduceEqDiff, ↓reduceIte, nle_T, nle_F, nlt_T, nlt_F, neq_F, neq_T, if_true, if_false, true_and, and_true, Nat.mul_zero, Nat.zero_add, Nat.add_zero, Nat.reduceAdd, Nat.reduceMul, Nat.reduceSub, li_0, li_1, li_2, li_3, li_4, li_5, li_6, li_7, li_8, li_9, li_10, li_11, li_12, li_13, li_14, li_15, li_16, li_20, li_24, li_28, li_31, li_35, li_38, li_40, li_41, li_45, li_48, li_60, li_62, li_63, li_97, li_100, li_104, li_105, li_120, li_124, li_127, li_180, li_239, li_240, li_255, li_256, li_300, li_400, li_960, li_1000000]
      · have hL' : L = 60 := by omega
        refine Or.inr (Or.inr (Or.inr ⟨nI 0, σ, su (su τ 0 (fun _ => nI 0)) 0 (fun _ => nI 3), ?_, ?_, rfl, hR2 _ _⟩))
        · simp (implicitDefEqProofs := false) (disch := omega) only [tX7_step, k1, mX3_lineCount, a8, ↓bnd_e, ↓ob_s, ob_s, su_1, su_2, sl_1, sl_2, ↓ck_n, ck_n, ck_Z0, ck_Z1, c_lt, c_le, c_eq, ng_1, m_ne, m_en, m_lt, m_le, m_gt, m_ge, n_add, n_mul, n_sub, n_sm, n_pm, n_0m, n_cl, Nat.reduceEqDiff, ↓reduceIte, nle_T, nle_F, nlt_T, nlt_F, neq_F, neq_T, if_true, if_false, true_and, and_true, Nat.mul_zero, Nat.zero_add, Nat.add_zero, Nat.reduceAdd, Nat.reduceMul, Nat.reduceSub, li_0, li_1, li_2, li_3, li_4, li_5, li_6, li_7, li_8, li_9, li_10, li_11, li_12, li_13, li_14, li_15, li_16, li_20, li_24, li_28, li_31, li_35, li_38, li_40, li_41, li_45, li_48, li_60, li_62, li_63, li_97, li_100, li_104, li_105, li_120, li_124, li_127, li_180, li_239, li_240, li_255, li_256, li_300, li_400, li_960, li_1000000]
        · simp (implicitDefEqProofs := false) (disch := omega) only [mX8_step, i1, k8', a6, mX8_no, ↓bnd_e, ↓ob_s, ob_s, su_1, su_2, sl_1, sl_2, ↓ck_n, ck_n, ck_Z0, ck_Z1, c_lt, c_le, c_eq, ng_1, m_ne, m_en, m_lt, m_le, m_gt, m_ge, n_add, n_mul, n_sub, n_sm, n_pm, n_0m, n_cl, Nat.reduceEqDiff, ↓reduceIte, nle_T, nle_F, nlt_T, nlt_F, neq_F, neq_T, if_true, if_false, true_and, and_true, Nat.mul_zero, Nat.zero_add, Nat.add_zero, Nat.reduceAdd, Nat.reduceMul, Nat.reduceSub, li_0, li_1, li_2, li_3, li_4, li_5, li_6, li_7, li_8, li_9, li_10, li_11, li_12, li_13, li_14, li_15, li_16, li_20, li_24, li_28, li_31, li_35, li_38, li_40, li_41, li_45, li_48, li_60, li_62, li_63, li_97, li_100, li_104, li_105, li_120, li_124, li_127, li_180, li_239, li_240, li_255, li_256, li_300, li_400, li_960, li_1000000]
    · have k8' := k8 _ z5
      refine Or.inr (Or.inr (Or.inl ⟨nI 0, σ, su (su τ 0 (fun _ => nI 0)) 0 (fun _ => nI 2), ?_, ?_, rfl, hR2 _ _⟩))
      · simp (implicitDefEqProofs := false) (disch := omega) only [tX7_step, k1, ↓bnd_e, ↓ob_s, ob_s, su_1, su_2, sl_1, sl_2, ↓ck_n, ck_n, ck_Z0, ck_Z1, c_lt, c_le, c_eq, ng_1, m_ne, m_en, m_lt, m_le, m_gt, m_ge, n_add, n_mul, n_sub, n_sm, n_pm, n_0m, n_cl, Nat.reduceEqDiff, ↓reduceIte, nle_T, nle_F, nlt_T, nlt_F, neq_F, neq_T, if_true, if_false, true_and, and_true, Nat.mul_zero, Nat.zero_add, Nat.add_zero, Nat.reduceAdd, Nat.reduceMul, Nat.reduceSub, li_0, li_1, li_2, li_3, li_4, li_5, li_6, li_7, li_8, li_9, li_10, li_11, li_12, li_13, li_14, li_15, li_16, li_20, li_24, li_28, li_31, li_35, li_38, li_40, li_41, li_45, li_48, li_60, li_62, li_63, li_97, li_100, li_104, li_105, li_120, li_124, li_127, li_180, li_239, li_240, li_255, li_256, li_300, li_400, li_960, li_1000000]
      · simp (implicitDefEqProofs := false) (disch := omega) only [mX8_step, i1, k8', mX8_no, ↓bnd_e, ↓ob_s, ob_s, su_1, su_2, sl_1, sl_2, ↓ck_n, ck_n, ck_Z0, ck_Z1, c_lt, c_le, c_eq, ng_1, m_ne, m_en, m_lt, m_le, m_gt, m_ge, n_add, n_mul, n_sub, n_sm, n_pm, n_0m, n_cl, Nat.reduceEqDiff, ↓reduceIte, nle_T, nle_F, nlt_T, nlt_F, neq_F, neq_T, if_true, if_false, true_and, and_true, Nat.mul_zero, Nat.zero_add, Nat.add_zero, Nat.reduceAdd, Nat.reduceMul, Nat.reduceSub, li_0, li_1, li_2, li_3, li_4, li_5, li_6, li_7, li_8, li_9, li_10, li_11, li_12, li_13, li_14, li_15, li_16, li_20, li_24, li_28, li_31, li_35, li_38, li_40, li_41, li_45, li_48, li_60, li_62, li_63, li_97, li_100, li_104, li_105, li_120, li_124, li_127, li_180, li_239, li_240, li_255, li_256, li_300, li_400, li_960, li_1000000]
  · refine Or.inr (Or.inl ⟨nI 0, σ, su (su τ 0 (fun _ => nI 0)) 0 (fun _ => nI 1), ?_, ?_, rfl, hR2 _ _⟩)
    · rcases ix3 p1 14 (by omega) with ⟨h, h'⟩ | ⟨h, h', _, h2, h3⟩ | ⟨j, hj, rfl⟩
      · simp (implicitDefEqProofs := false) (disch := omega) only [tX7_step, h, ↓bnd_e, ↓ob_s, ob_s, su_1, su_2, sl_1, sl_2, ↓ck_n, ck_n, ck_Z0, ck_Z1, c_lt, c_le, c_eq, ng_1, m_ne, m_en, m_lt, m_le, m_gt, m_ge, n_add, n_mul, n_sub, n_sm, n_pm, n_0m, n_cl, Nat.reduceEqDiff, ↓reduceIte, nle_T, nle_F, nlt_T, nlt_F, neq_F, neq_T, if_true, if_false, true_and, and_true, Nat.mul_zero, Nat.zero_add, Nat.add_zero, Nat.reduceAdd, Nat.reduceMul, Nat.reduceSub, li_0, li_1, li_2, li_3, li_4, li_5, li_6, li_7, li_8, li_9, li_10, li_11, li_12, li_13, li_14, li_15, li_16, li_20, li_24, li_28, li_31, li_35, li_38, li_40, li_41, li_45, li_48, li_60, li_62, li_63, li_97, li_100, li_104, li_105, li_120, li_124, li_127, li_180, li_239, li_240, li_255, li_256, li_300, li_400, li_960, li_1000000]
      · have := (h2 13 (by omega)).2.1
        simp (implicitDefEqProofs := false) (disch := omega) only [tX7_step, h, this, ↓bnd_e, ↓ob_s, ob_s, su_1, su_2, sl_1, sl_2, ↓ck_n, ck_n, ck_Z0, ck_Z1, c_lt, c_le, c_eq, ng_1, m_ne, m_en, m_lt, m_le, m_gt, m_ge, n_add, n_mul, n_sub, n_sm, n_pm, n_0m, n_cl, Nat.reduceEqDiff, ↓reduceIte, nle_T, nle_F, nlt_T, nlt_F, neq_F, neq_T, if_true, if_false, true_and, and_true, Nat.mul_zero, Nat.zero_add, Nat.add_zero, Nat.reduceAdd, Nat.reduceMul, Nat.reduceSub, li_0, li_1, li_2, li_3, li_4, li_5, li_6, li_7, li_8, li_9, li_10, li_11, li_12, li_13, li_14, li_15, li_16, li_20, li_24, li_28, li_31, li_35, li_38, li_40, li_41, li_45, li_48, li_60, li_62, li_63, li_97, li_100, li_104, li_105, li_120, li_124, li_127, li_180, li_239, li_240, li_255, li_256, li_300, li_400, li_960, li_1000000]
      · exact (ix ⟨j, by omega, rfl⟩).elim
    · simp (implicitDefEqProofs := false) (disch := omega) only [mX8_step, i2, mX8_no, ↓bnd_e, ↓ob_s, ob_s, su_1, su_2, sl_1, sl_2, ↓ck_n, ck_n, ck_Z0, ck_Z1, c_lt, c_le, c_eq, ng_1, m_ne, m_en, m_lt, m_le, m_gt, m_ge, n_add, n_mul, n_sub, n_sm, n_pm, n_0m, n_cl, Nat.reduceEqDiff, ↓reduceIte, nle_T, nle_F, nlt_T, nlt_F, neq_F, neq_T, if_true, if_false, true_and, and_true, Nat.mul_zero, Nat.zero_add, Nat.add_zero, Nat.reduceAdd, Nat.reduceMul, Nat.reduceSub, li_0, li_1, li_2, li_3, li_4, li_5, li_6, li_7, li_8, li_9, li_10, li_11, li_12, li_13, li_14, li_15, li_16, li_20, li_24, li_28, li_31, li_35, li_38, li_40, li_41, li_45, li_48, li_60, li_62, li_63, li_97, li_100, li_104, li_105, li_120, li_124, li_127, li_180, li_239, li_240, li_255, li_256, li_300, li_400, li_960, li_1000000]
