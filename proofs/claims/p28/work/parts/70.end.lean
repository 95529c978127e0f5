theorem LQ.t {T L B : Nat} {σ τ τ' : St} {l : List Nat} (h : LQ T L B σ τ) (kτ : KE l τ τ') (hl : ∀ c, c ∈ [6, 10, 21, 22, 23, 25, 26] → c ∉ l) (h30 : ∀ t, t < T → τ'.1 30 t = τ.1 30 t) : LQ T L B σ τ' := by
  obtain ⟨⟨x1, x2, x3, x4, x5, x6, x7⟩, ⟨y1, y2, y3⟩, hb, hk⟩ := h
  refine ⟨⟨x1, x2, x3, x4, by rw [kτ 6 (hl _ (by decide))]; exact x5, x6, by rw [kτ 10 (hl _ (by decide))]; exact x7⟩, ⟨by rw [kτ 25 (hl _ (by decide))]; exact y1, by rw [kτ 26 (hl _ (by decide))]; exact y2, by rw [kτ 23 (hl _ (by decide))]; exact y3⟩, fun b hb2 => by rw [kτ 25 (hl _ (by decide))]; exact hb b hb2, fun k hk2 => ?_⟩
  obtain ⟨r, r1, r2, r3, r4⟩ := hk k hk2
  rw [kτ 22 (hl _ (by decide)), kτ 23 (hl _ (by decide)), kτ 26 (hl _ (by decide))]
  have e : ∀ w, kdN τ'.1 r (τ.1 23 (3 * k)).toNatClampNeg w = kdN τ.1 r (τ.1 23 (3 * k)).toNatClampNeg w := by
    intro w
    unfold kdN
    by_cases h13 : r = 13
    · obtain ⟨a, a1, a2, _⟩ := r3 h13
      rw [if_pos h13, if_pos h13, a2, n_cl (by omega), h30 a a1]
    · rw [if_neg h13, if_neg h13]
  refine ⟨r, r1, r2, fun h13 => ?_, fun w hw => ?_⟩
  · obtain ⟨a, a1, a2, m, m1, m2⟩ := r3 h13
    exact ⟨a, a1, a2, m, m1, by rw [h30 a a1]; exact m2⟩
  · rw [e w]; exact r4 w hw
theorem P_end {σ τ : St} (h : RR σ τ) : (∃ (r : Int32) (σ' : St) (τ' : St), mX7_end σ = some (r, σ') ∧ mX8_end τ = some (r, τ') ∧ τ'.1 0 0 = 0 ∧ RR σ' τ') ∨ (∃ (v : Int32) (σ' : St) (τ' : St), tX7_end σ = some (1, σ') ∧ mX8_end τ = some (v, τ') ∧ τ'.1 0 0 = 1 ∧ RR σ' τ') := by
  have hR2 := fun v w => RR_thr (RR_thr h v) w
  obtain ⟨F, T, hf, ht, hp, hh, L, B, n, O, ⟨a8, a6, a1, a2, a7, a9, a3, a4⟩, b1, c1, d1, hH⟩ := h
  have hI := hH.inv
  obtain ⟨hL60, hBL, hO6⟩ := hI.1
  have hF := hf.le
  obtain ⟨hT, h6, h10⟩ := hh.1
  have bad : ∀ {P : Prop}, tX7_end σ = some (1, σ) → mX8_end τ = some (nI 0, su (su τ 0 (fun _ => nI 0)) 0 (fun _ => nI 1)) → P ∨ (∃ (v : Int32) (σ' : St) (τ' : St), tX7_end σ = some (1, σ') ∧ mX8_end τ = some (v, τ') ∧ τ'.1 0 0 = 1 ∧ RR σ' τ') := fun x y => Or.inr ⟨_, _, _, x, y, rfl, hR2 _ _⟩
  obtain ⟨d, dd1, dd2⟩ := hI.2.2.2.1
  obtain ⟨m, hm⟩ := prem_ex hI
  have e3 := x3_prem hL60 a8 b1.2.1 hm
  have hlq : LQ T L B σ τ := RV.lq (n := n) (inn := τ.1 8 0) (e := τ.1 26) hh a8 a6 a1 b1.2.2.2.2.1 b1.2.2.2.2.2.1 b1.2.2.1 d1 hI
  cases L with
  | zero => exact bad (by simp (implicitDefEqProofs := false) (disch := omega) only [tX7_end, mX3_lineCount, a8, ↓bnd_e, ↓ob_s, ob_s, su_1, su_2, sl_1, sl_2, ↓ck_n, ck_n, ck_Z0, ck_Z1, c_lt, c_le, c_eq, ng_1, m_ne, m_en, m_lt, m_le, m_gt, m_ge, n_add, n_mul, n_sub, n_sm, n_pm, n_0m, n_cl, Nat.reduceEqDiff, ↓reduceIte, nle_T, nle_F, nlt_T, nlt_F, neq_F, neq_T, if_true, if_false, true_and, and_true, Nat.mul_zero, Nat.zero_add, Nat.add_zero, Nat.reduceAdd, Nat.reduceMul, Nat.reduceSub, li_0, li_1, li_2, li_3, li_4, li_5, li_6, li_7, li_8, li_9, li_10, li_11, li_12, li_13, li_14, li_15, li_16, li_20, li_24, li_28, li_31, li_35, li_38, li_40, li_41, li_45, li_48, li_60, li_62, li_63, li_97, li_100, li_104, li_105, li_120, li_124, li_127, li_180, li_239, li_240, li_255, li_256, li_300, li_400, li_960, li_1000000]) (by simp (implicitDefEqProofs := false) (disch := omega) only [mX8_end, mX8_end_44, mX8_no, a6, ↓bnd_e, ↓ob_s, ob_s, su_1, su_2, sl_1, sl_2, ↓ck_n, ck_n, ck_Z0, ck_Z1, c_lt, c_le, c_eq, ng_1, m_ne, m_en, m_lt, m_le, m_gt, m_ge, n_add, n_mul, n_sub, n_sm, n_pm, n_0m, n_cl, Nat.reduceEqDiff, ↓reduceIte, nle_T, nle_F, nlt_T, nlt_F, neq_F, neq_T, if_true, if_false, true_and, and_true, Nat.mul_zero, Nat.zero_add, Nat.add_zero, Nat.reduceAdd, Nat.reduceMul, Nat.reduceSub, li_0, li_1, li_2, li_3, li_4, li_5, li_6, li_7, li_8, li_9, li_10, li_11, li_12, li_13, li_14, li_15, li_16, li_20, li_24, li_28, li_31, li_35, li_38, li_40, li_41, li_45, li_48, li_60, li_62, li_63, li_97, li_100, li_104, li_105, li_120, li_124, li_127, li_180, li_239, li_240, li_255, li_256, li_300, li_400, li_960, li_1000000])
  | succ L' =>
    rcases dd2 with ⟨i1, rfl⟩ | ⟨b, hb, i2, hd, he⟩
    · obtain ⟨⟨fl, fl1, fl2⟩, hbx, _⟩ := hI.2.1 L' (by omega)
      rcases hbx with hbx | ⟨b, hb, hbx⟩
      · have q33 : σ.1 33 L' = mI := by rw [b1.2.2.2.1]; exact hbx
        by_cases hT16 : T < 16
        · obtain ⟨v0, v1, hv0, hv1, ec, em⟩ : ∃ v0 v1 : Int32, (if 0 < m then ∃ f, f < F ∧ v0 = nI f else v0 = mI) ∧ (if 1 < m then ∃ f, f < F ∧ v1 = nI f else v1 = mI) ∧ mX7_end σ = mX7_end_111 σ (nI L') v0 v1 ∧
              ∀ s : St, s.1 30 T = nI m → s.1 21 = τ.1 21 → mX8_end_84 NF s (nI T) (nI 0) = mX8_end_125 (su (su s 31 (upd (s.1 31) (2 * T) v0)) 31 (upd (upd (s.1 31) (2 * T) v0) (2 * T + 1) v1)) (nI T) := by
            obtain ⟨nf, hnf⟩ := NF_5
            have hm3 : m = 0 ∨ m = 1 ∨ m = 2 := by have := hm.1; omega
            have hmL := hm.2.1
            rcases hm3 with rfl | rfl | rfl
            · refine ⟨mI, mI, rfl, rfl, ?_, fun s s30 s21 => ?_⟩
              · simp (implicitDefEqProofs := false) (disch := omega) only [mX7_end, mX7_end_93, mX3_lineCount, mX3_openCount, mX0_open, mX3_boxOf, mX6_known, a8, a3, q33, h6, e3, Nat.add_sub_cancel, ↓bnd_e, ↓ob_s, ob_s, su_1, su_2, sl_1, sl_2, ↓ck_n, ck_n, ck_Z0, ck_Z1, c_lt, c_le, c_eq, ng_1, m_ne, m_en, m_lt, m_le, m_gt, m_ge, n_add, n_mul, n_sub, n_sm, n_pm, n_0m, n_cl, Nat.reduceEqDiff, ↓reduceIte, nle_T, nle_F, nlt_T, nlt_F, neq_F, neq_T, if_true, if_false, true_and, and_true, Nat.mul_zero, Nat.zero_add, Nat.add_zero, Nat.reduceAdd, Nat.reduceMul, Nat.reduceSub, li_0, li_1, li_2, li_3, li_4, li_5, li_6, li_7, li_8, li_9, li_10, li_11, li_12, li_13, li_14, li_15, li_16, li_20, li_24, li_28, li_31, li_35, li_38, li_40, li_41, li_45, li_48, li_60, li_62, li_63, li_97, li_100, li_104, li_105, li_120, li_124, li_127, li_180, li_239, li_240, li_255, li_256, li_300, li_400, li_960, li_1000000]
              · rw [hnf]
                simp (implicitDefEqProofs := false) (disch := omega) only [fx_s, bX8_end_84, mX8_end_118, s30, ↓bnd_e, ↓ob_s, ob_s, su_1, su_2, sl_1, sl_2, ↓ck_n, ck_n, ck_Z0, ck_Z1, c_lt, c_le, c_eq, ng_1, m_ne, m_en, m_lt, m_le, m_gt, m_ge, n_add, n_mul, n_sub, n_sm, n_pm, n_0m, n_cl, Nat.reduceEqDiff, ↓reduceIte, nle_T, nle_F, nlt_T, nlt_F, neq_F, neq_T, if_true, if_false, true_and, and_true, Nat.mul_zero, Nat.zero_add, Nat.add_zero, Nat.reduceAdd, Nat.reduceMul, Nat.reduceSub, li_0, li_1, li_2, li_3, li_4, li_5, li_6, li_7, li_8, li_9, li_10, li_11, li_12, li_13, li_14, li_15, li_16, li_20, li_24, li_28, li_31, li_35, li_38, li_40, li_41, li_45, li_48, li_60, li_62, li_63, li_97, li_100, li_104, li_105, li_120, li_124, li_127, li_180, li_239, li_240, li_255, li_256, li_300, li_400, li_960, li_1000000]
            · obtain ⟨⟨f0, f01, f02⟩, _⟩ := hI.2.1 0 (by omega)
              have q0 : σ.1 29 0 = τ.1 21 0 := by rw [b1.1]
              refine ⟨τ.1 21 0, mI, ⟨f0, f01, f02⟩, rfl, ?_, fun s s30 s21 => ?_⟩
              · simp (implicitDefEqProofs := false) (disch := omega) only [mX7_end, mX7_end_93, mX3_lineCount, mX3_openCount, mX0_open, mX3_boxOf, mX3_formulaOf, mX6_known, a8, a3, q33, h6, e3, q0, Nat.add_sub_cancel, ↓bnd_e, ↓ob_s, ob_s, su_1, su_2, sl_1, sl_2, ↓ck_n, ck_n, ck_Z0, ck_Z1, c_lt, c_le, c_eq, ng_1, m_ne, m_en, m_lt, m_le, m_gt, m_ge, n_add, n_mul, n_sub, n_sm, n_pm, n_0m, n_cl, Nat.reduceEqDiff, ↓reduceIte, nle_T, nle_F, nlt_T, nlt_F, neq_F, neq_T, if_true, if_false, true_and, and_true, Nat.mul_zero, Nat.zero_add, Nat.add_zero, Nat.reduceAdd, Nat.reduceMul, Nat.reduceSub, li_0, li_1, li_2, li_3, li_4, li_5, li_6, li_7, li_8, li_9, li_10, li_11, li_12, li_13, li_14, li_15, li_16, li_20, li_24, li_28, li_31, li_35, li_38, li_40, li_41, li_45, li_48, li_60, li_62, li_63, li_97, li_100, li_104, li_105, li_120, li_124, li_127, li_180, li_239, li_240, li_255, li_256, li_300, li_400, li_960, li_1000000]
              · rw [hnf]
                simp (implicitDefEqProofs := false) (disch := omega) only [fx_s, bX8_end_84, mX8_end_118, s30, s21, ↓bnd_e, ↓ob_s, ob_s, su_1, su_2, sl_1, sl_2, ↓ck_n, ck_n, ck_Z0, ck_Z1, c_lt, c_le, c_eq, ng_1, m_ne, m_en, m_lt, m_le, m_gt, m_ge, n_add, n_mul, n_sub, n_sm, n_pm, n_0m, n_cl, Nat.reduceEqDiff, ↓reduceIte, nle_T, nle_F, nlt_T, nlt_F, neq_F, neq_T, if_true, if_false, true_and, and_true, Nat.mul_zero, Nat.zero_add, Nat.add_zero, Nat.reduceAdd, Nat.reduceMul, Nat.reduceSub, li_0, li_1, li_2, li_3, li_4, li_5, li_6, li_7, li_8, li_9, li_10, li_11, li_12, li_13, li_14, li_15, li_16, li_20, li_24, li_28, li_31, li_35, li_38, li_40, li_41, li_45, li_48, li_60, li_62, li_63, li_97, li_100, li_104, li_105, li_120, li_124, li_127, li_180, li_239, li_240, li_255, li_256, li_300, li_400, li_960, li_1000000]
            · obtain ⟨⟨f0, f01, f02⟩, _⟩ := hI.2.1 0 (by omega)
              obtain ⟨⟨f1, f11, f12⟩, _⟩ := hI.2.1 1 (by omega)
              have q0 : σ.1 29 0 = τ.1 21 0 := by rw [b1.1]
              have q1 : σ.1 29 1 = τ.1 21 1 := by rw [b1.1]
              refine ⟨τ.1 21 0, τ.1 21 1, ⟨f0, f01, f02⟩, ⟨f1, f11, f12⟩, ?_, fun s s30 s21 => ?_⟩
              · simp (implicitDefEqProofs := false) (disch := omega) only [mX7_end, mX7_end_93, mX3_lineCount, mX3_openCount, mX0_open, mX3_boxOf, mX3_formulaOf, mX6_known, a8, a3, q33, h6, e3, q0, q1, Nat.add_sub_cancel, ↓bnd_e, ↓ob_s, ob_s, su_1, su_2, sl_1, sl_2, ↓ck_n, ck_n, ck_Z0, ck_Z1, c_lt, c_le, c_eq, ng_1, m_ne, m_en, m_lt, m_le, m_gt, m_ge, n_add, n_mul, n_sub, n_sm, n_pm, n_0m, n_cl, Nat.reduceEqDiff, ↓reduceIte, nle_T, nle_F, nlt_T, nlt_F, neq_F, neq_T, if_true, if_false, true_and, and_true, Nat.mul_zero, Nat.zero_add, Nat.add_zero, Nat.reduceAdd, Nat.reduceMul, Nat.reduceSub, li_0, li_1, li_2, li_3, li_4, li_5, li_6, li_7, li_8, li_9, li_10, li_11, li_12, li_13, li_14, li_15, li_16, li_20, li_24, li_28, li_31, li_35, li_38, li_40, li_41, li_45, li_48, li_60, li_62, li_63, li_97, li_100, li_104, li_105, li_120, li_124, li_127, li_180, li_239, li_240, li_255, li_256, li_300, li_400, li_960, li_1000000]
              · rw [hnf]
                simp (implicitDefEqProofs := false) (disch := omega) only [fx_s, bX8_end_84, mX8_end_118, s30, s21, ↓bnd_e, ↓ob_s, ob_s, su_1, su_2, sl_1, sl_2, ↓ck_n, ck_n, ck_Z0, ck_Z1, c_lt, c_le, c_eq, ng_1, m_ne, m_en, m_lt, m_le, m_gt, m_ge, n_add, n_mul, n_sub, n_sm, n_pm, n_0m, n_cl, Nat.reduceEqDiff, ↓reduceIte, nle_T, nle_F, nlt_T, nlt_F, neq_F, neq_T, if_true, if_false, true_and, and_true, Nat.mul_zero, Nat.zero_add, Nat.add_zero, Nat.reduceAdd, Nat.reduceMul, Nat.reduceSub, li_0, li_1, li_2, li_3, li_4, li_5, li_6, li_7, li_8, li_9, li_10, li_11, li_12, li_13, li_14, li_15, li_16, li_20, li_24, li_28, li_31, li_35, li_38, li_40, li_41, li_45, li_48, li_60, li_62, li_63, li_97, li_100, li_104, li_105, li_120, li_124, li_127, li_180, li_239, li_240, li_255, li_256, li_300, li_400, li_960, li_1000000]
          obtain ⟨s1, es1⟩ : ∃ v, v = su (su τ 0 (fun _ => nI 0)) 29 (upd (τ.1 29) T (τ.1 21 L')) := ⟨_, rfl⟩
          obtain ⟨s2, es2⟩ : ∃ v, v = su s1 30 (upd (τ.1 30) T (nI m)) := ⟨_, rfl⟩
          obtain ⟨s5, es5⟩ : ∃ v, v = su (su (su s2 31 (upd (τ.1 31) (2 * T) v0)) 31 (upd (upd (τ.1 31) (2 * T) v0) (2 * T + 1) v1)) 32 (upd (τ.1 32) T (nI (L' + 1))) := ⟨_, rfl⟩
          have k1 : KE [0, 29] τ s1 := by rw [es1]; exact (KE.rf.s (by decide)).s (by decide)
          have k2 : KE [0, 29, 30] τ s2 := by rw [es2]; exact (k1.wk (by decide)).s (by decide)
          have k5 : KE [0, 29, 30, 31, 32] τ s5 := by rw [es5]; exact (((k2.wk (by decide)).s (by decide)).s (by decide)).s (by decide)
          have p1 : mX8_premisesNow s1 = some (nI m) := x8_prem (τ := s1) (L := L' + 1) (m := m) hL60 (by rw [k1 6 (by decide)]; exact a6) (by unfold PM2; rw [k1 22 (by decide)]; exact hm)
          have s30 : s5.1 30 = upd (τ.1 30) T (nI m) := by rw [es5, es2]; rfl
          have s31 : s5.1 31 = upd (upd (τ.1 31) (2 * T) v0) (2 * T + 1) v1 := by rw [es5]; rfl
          have s32 : s5.1 32 = upd (τ.1 32) T (nI (L' + 1)) := by rw [es5]; rfl
          have s29 : s5.1 29 = upd (τ.1 29) T (τ.1 21 L') := by rw [es5, es2, es1]; rfl
          have s50 : s5.1 0 0 = nI 0 := by rw [es5, es2, es1]; rfl
          obtain ⟨c, s9, s6, n1, n2, n3, n4, n5, n6, n7, n8⟩ := (hlq.t k5 (by decide) (fun t ht => by rw [s30, pk_un (by omega)])).zi
          have k6 : KE [0, 29, 30, 31, 32, 40] τ s6 := (k5.wk (by decide)).tr (n5.wk (by decide))
          obtain ⟨σ', es⟩ : ∃ v, v = su (su (su (su (su (su (su (su (su (su (su (su s9 22 (upd (σ.1 22) T (τ.1 21 L'))) 23 (upd (σ.1 23) T v0)) 24 (upd (σ.1 24) T v1)) 25 (upd (σ.1 25) T (nI (L' + 1)))) 26 (upd (σ.1 26) T (nI c))) 27 (upd (σ.1 27) T (nI 0))) 6 (fun _ => nI (T + 1))) 9 (fun _ => nI 0)) 10 (fun _ => nI 0)) 11 (fun _ => mI)) 7 (fun _ => nI 0)) 8 (fun _ => nI 0) := ⟨_, rfl⟩
          obtain ⟨τ', et⟩ : ∃ v, v = su (su (su (su (su (su (su s6 33 (upd (τ.1 33) T (nI c))) 34 (upd (τ.1 34) T (nI 0))) 10 (fun _ => nI (T + 1))) 6 (fun _ => nI 0)) 7 (fun _ => nI 0)) 8 (fun _ => mI)) 9 (fun _ => nI 0) := ⟨_, rfl⟩
          have kσ : KE [34, 22, 23, 24, 25, 26, 27, 6, 9, 10, 11, 7, 8] σ σ' := by rw [es]; exact ((((((((((((n4.wk (by decide)).s (by decide)).s (by decide)).s (by decide)).s (by decide)).s (by decide)).s (by decide)).s (by decide)).s (by decide)).s (by decide)).s (by decide)).s (by decide)).s (by decide)
          have kτ : KE [0, 29, 30, 31, 32, 40, 33, 34, 10, 6, 7, 8, 9] τ τ' := by rw [et]; exact (((((((k6.wk (by decide)).s (by decide)).s (by decide)).s (by decide)).s (by decide)).s (by decide)).s (by decide)).s (by decide)
          have t29 : τ'.1 29 = upd (τ.1 29) T (τ.1 21 L') := by rw [et]; show s6.1 29 = _; rw [n5 29 (by decide), s29]
          have t30 : τ'.1 30 = upd (τ.1 30) T (nI m) := by rw [et]; show s6.1 30 = _; rw [n5 30 (by decide), s30]
          have t31 : τ'.1 31 = upd (upd (τ.1 31) (2 * T) v0) (2 * T + 1) v1 := by rw [et]; show s6.1 31 = _; rw [n5 31 (by decide), s31]
          have t32 : τ'.1 32 = upd (τ.1 32) T (nI (L' + 1)) := by rw [et]; show s6.1 32 = _; rw [n5 32 (by decide), s32]
          have t33 : τ'.1 33 = upd (τ.1 33) T (nI c) := by rw [et]; rfl
          have t34 : τ'.1 34 = upd (τ.1 34) T (nI 0) := by rw [et]; rfl
          have t10 : τ'.1 10 0 = nI (T + 1) := by rw [et]; rfl
          have t0 : τ'.1 0 0 = nI 0 := by rw [et]; show s6.1 0 0 = _; rw [n5 0 (by decide), s50]
          have z22 : σ'.1 22 = upd (σ.1 22) T (τ.1 21 L') := by rw [es]; rfl
          have z23 : σ'.1 23 = upd (σ.1 23) T v0 := by rw [es]; rfl
          have z24 : σ'.1 24 = upd (σ.1 24) T v1 := by rw [es]; rfl
          have z25 : σ'.1 25 = upd (σ.1 25) T (nI (L' + 1)) := by rw [es]; rfl
          have z26 : σ'.1 26 = upd (σ.1 26) T (nI c) := by rw [es]; rfl
          have z27 : σ'.1 27 = upd (σ.1 27) T (nI 0) := by rw [es]; rfl
          have z6 : σ'.1 6 0 = nI (T + 1) := by rw [es]; rfl
          have z2 : σ'.2 = σ.2 := by rw [es]; exact n6
          have hRH : RH F (T + 1) σ' τ' := by
            obtain ⟨e22, e25, e26, e27⟩ := hh.2.1
            refine ⟨⟨by omega, z6, t10⟩, ⟨by rw [z22, t29, e22], by rw [z25, t32, e25], by rw [z26, t33, e26], by rw [z27, t34, e27]⟩, fun t ht => ?_⟩
            unfold HJ
            rw [z23, z24, t29, t30, t31, t32, t33]
            by_cases e : t = T
            · subst e
              rw [pk_us, pk_us, pk_us, pk_us, pk_us, pk_us, pk_un (show 2 * t ≠ 2 * t + 1 by omega), pk_us, pk_us]
              refine ⟨⟨fl, fl1, fl2⟩, rfl, rfl, ⟨m, hm.1, rfl, fun w hw => ?_⟩, L' + 1, c, by omega, hL60, n3, rfl, rfl⟩
              have hw2 : w = 0 ∨ w = 1 := by omega
              rcases hw2 with rfl | rfl
              · show if 0 < m then ∃ f, f < F ∧ upd (upd (τ.1 31) (2 * t) v0) (2 * t + 1) v1 (2 * t) = nI f else upd (upd (τ.1 31) (2 * t) v0) (2 * t + 1) v1 (2 * t) = mI
                rw [pk_un (show 2 * t ≠ 2 * t + 1 by omega), pk_us]; exact hv0
              · rw [pk_us]; exact hv1
            · obtain ⟨x1, x2, x3, ⟨m', m1, m2, m3⟩, x5⟩ := hh.2.2 t (by omega)
              rw [pk_un e, pk_un e, pk_un e, pk_un e, pk_un e, pk_un e, pk_un (show 2 * t ≠ 2 * T + 1 by omega), pk_un (show 2 * t ≠ 2 * T by omega), pk_un (show 2 * t + 1 ≠ 2 * T + 1 by omega), pk_un (show 2 * t + 1 ≠ 2 * T by omega)]
              refine ⟨x1, x2, x3, ⟨m', m1, m2, fun w hw => ?_⟩, x5⟩
              rw [pk_un (show 2 * t + w ≠ 2 * T + 1 by omega), pk_un (show 2 * t + w ≠ 2 * T by omega)]
              exact m3 w hw
          refine Or.inl ⟨nI T, σ', τ', ?_, ?_, t0, F, T + 1, hf.c (.k kσ (by decide)) z2 (.k kτ (by decide)), ht.c (.k kσ (by decide)) (.k kτ (by decide)), hp.c (.k kσ (by decide)) (.k kτ (by decide)), hRH, 0, 0, 0, 0, ⟨?_, ?_, ?_, ?_, ?_, ?_, ?_, ?_⟩, ⟨?_, ?_, ?_, ?_, ?_, ?_, ?_⟩, fun i hi => absurd hi (by omega), fun k hk => absurd hk (by omega), rfl, rfl, rfl, ?_⟩
          · rw [ec, es]
            have q29 : σ.1 29 L' = τ.1 21 L' := by rw [b1.1]
            have w6 : s9.1 6 0 = nI T := by rw [n4 6 (by decide)]; exact h6
            have w22 := n4 22 (by decide)
            have w23 := n4 23 (by decide)
            have w24 := n4 24 (by decide)
            have w25 := n4 25 (by decide)
            have w26 := n4 26 (by decide)
            have w27 := n4 27 (by decide)
            simp (implicitDefEqProofs := false) (disch := omega) only [mX7_end_111, mX3_formulaOf, a8, q29, n1, mX6_add, w6, w22, w23, w24, w25, w26, w27, mX3_clear, mX0_clear, ↓bnd_e, ↓ob_s, ob_s, su_1, su_2, sl_1, sl_2, ↓ck_n, ck_n, ck_Z0, ck_Z1, c_lt, c_le, c_eq, ng_1, m_ne, m_en, m_lt, m_le, m_gt, m_ge, n_add, n_mul, n_sub, n_sm, n_pm, n_0m, n_cl, Nat.reduceEqDiff, ↓reduceIte, nle_T, nle_F, nlt_T, nlt_F, neq_F, neq_T, if_true, if_false, true_and, and_true, Nat.mul_zero, Nat.zero_add, Nat.add_zero, Nat.reduceAdd, Nat.reduceMul, Nat.reduceSub, li_0, li_1, li_2, li_3, li_4, li_5, li_6, li_7, li_8, li_9, li_10, li_11, li_12, li_13, li_14, li_15, li_16, li_20, li_24, li_28, li_31, li_35, li_38, li_40, li_41, li_45, li_48, li_60, li_62, li_63, li_97, li_100, li_104, li_105, li_120, li_124, li_127, li_180, li_239, li_240, li_255, li_256, li_300, li_400, li_960, li_1000000]
          · have w33 : s6.1 33 = τ.1 33 := k6 33 (by decide)
            have w34 : s6.1 34 = τ.1 34 := k6 34 (by decide)
            have w10 : s6.1 10 0 = nI T := by rw [k6 10 (by decide)]; exact h10
            have e84 := em s2 (by rw [es2, su_1, if_pos rfl, pk_us]) (k2 21 (by decide))
            rw [k2 31 (by decide)] at e84
            have e0 : mX8_end τ = mX8_end_84 NF s2 (nI T) (nI 0) := by
              rw [es2]
              rw [es1] at p1 ⊢
              simp (implicitDefEqProofs := false) (disch := omega) only [mX8_end, a6, i1, hbx, h10, p1, Nat.add_sub_cancel, ↓bnd_e, ↓ob_s, ob_s, su_1, su_2, sl_1, sl_2, ↓ck_n, ck_n, ck_Z0, ck_Z1, c_lt, c_le, c_eq, ng_1, m_ne, m_en, m_lt, m_le, m_gt, m_ge, n_add, n_mul, n_sub, n_sm, n_pm, n_0m, n_cl, Nat.reduceEqDiff, ↓reduceIte, nle_T, nle_F, nlt_T, nlt_F, neq_F, neq_T, if_true, if_false, true_and, and_true, Nat.mul_zero, Nat.zero_add, Nat.add_zero, Nat.reduceAdd, Nat.reduceMul, Nat.reduceSub, li_0, li_1, li_2, li_3, li_4, li_5, li_6, li_7, li_8, li_9, li_10, li_11, li_12, li_13, li_14, li_15, li_16, li_20, li_24, li_28, li_31, li_35, li_38, li_40, li_41, li_45, li_48, li_60, li_62, li_63, li_97, li_100, li_104, li_105, li_120, li_124, li_127, li_180, li_239, li_240, li_255, li_256, li_300, li_400, li_960, li_1000000]
            rw [e0, e84, et]
            have q6 : s2.1 6 0 = nI (L' + 1) := by rw [k2 6 (by decide)]; exact a6
            have q32 : s2.1 32 = τ.1 32 := k2 32 (by decide)
            rw [es5] at n2
            simp (implicitDefEqProofs := false) (disch := omega) only [mX8_end_125, q6, q32, n2, w33, w34, w10, mX8_clear, ↓bnd_e, ↓ob_s, ob_s, su_1, su_2, sl_1, sl_2, ↓ck_n, ck_n, ck_Z0, ck_Z1, c_lt, c_le, c_eq, ng_1, m_ne, m_en, m_lt, m_le, m_gt, m_ge, n_add, n_mul, n_sub, n_sm, n_pm, n_0m, n_cl, Nat.reduceEqDiff, ↓reduceIte, nle_T, nle_F, nlt_T, nlt_F, neq_F, neq_T, if_true, if_false, true_and, and_true, Nat.mul_zero, Nat.zero_add, Nat.add_zero, Nat.reduceAdd, Nat.reduceMul, Nat.reduceSub, li_0, li_1, li_2, li_3, li_4, li_5, li_6, li_7, li_8, li_9, li_10, li_11, li_12, li_13, li_14, li_15, li_16, li_20, li_24, li_28, li_31, li_35, li_38, li_40, li_41, li_45, li_48, li_60, li_62, li_63, li_97, li_100, li_104, li_105, li_120, li_124, li_127, li_180, li_239, li_240, li_255, li_256, li_300, li_400, li_960, li_1000000]
          · rw [es]; rfl
          · rw [et]; rfl
          · rw [es]; rfl
          · rw [et]; rfl
          · rw [es]; rfl
          · rw [et]; rfl
          · rw [es]; rfl
          · rw [es, et]; rfl
          · rw [kσ 29 (by decide), kτ 21 (by decide)]; exact b1.1
          · rw [kσ 30 (by decide), kτ 22 (by decide)]; exact b1.2.1
          · rw [kσ 31 (by decide), kτ 23 (by decide)]; exact b1.2.2.1
          · rw [kσ 33 (by decide), kτ 24 (by decide)]; exact b1.2.2.2.1
          · rw [kσ 36 (by decide), kτ 25 (by decide)]; exact b1.2.2.2.2.1
          · rw [kσ 37 (by decide), kτ 26 (by decide)]; exact b1.2.2.2.2.2.1
          · rw [kσ 38 (by decide), kτ 27 (by decide)]; exact b1.2.2.2.2.2.2
          · rw [et]; rfl
        · have e16 : T = 16 := by omega
          subst e16
          exact bad (by simp (implicitDefEqProofs := false) (disch := omega) only [tX7_end, mX3_lineCount, mX3_openCount, mX0_open, mX3_boxOf, mX6_known, a8, a3, q33, h6, Nat.add_sub_cancel, ↓bnd_e, ↓ob_s, ob_s, su_1, su_2, sl_1, sl_2, ↓ck_n, ck_n, ck_Z0, ck_Z1, c_lt, c_le, c_eq, ng_1, m_ne, m_en, m_lt, m_le, m_gt, m_ge, n_add, n_mul, n_sub, n_sm, n_pm, n_0m, n_cl, Nat.reduceEqDiff, ↓reduceIte, nle_T, nle_F, nlt_T, nlt_F, neq_F, neq_T, if_true, if_false, true_and, and_true, Nat.mul_zero, Nat.zero_add, Nat.add_zero, Nat.reduceAdd, Nat.reduceMul, Nat.reduceSub, li_0, li_1, li_2, li_3, li_4, li_5, li_6, li_7, li_8, li_9, li_10, li_11, li_12, li_13, li_14, li_15, li_16, li_20, li_24, li_28, li_31, li_35, li_38, li_40, li_41, li_45, li_48, li_60, li_62, li_63, li_97, li_100, li_104, li_105, li_120, li_124, li_127, li_180, li_239, li_240, li_255, li_256, li_300, li_400, li_960, li_1000000]) (by simp (implicitDefEqProofs := false) (disch := omega) only [mX8_end, mX8_end_44, mX8_no, a6, i1, hbx, h10, Nat.add_sub_cancel, ↓bnd_e, ↓ob_s, ob_s, su_1, su_2, sl_1, sl_2, ↓ck_n, ck_n, ck_Z0, ck_Z1, c_lt, c_le, c_eq, ng_1, m_ne, m_en, m_lt, m_le, m_gt, m_ge, n_add, n_mul, n_sub, n_sm, n_pm, n_0m, n_cl, Nat.reduceEqDiff, ↓reduceIte, nle_T, nle_F, nlt_T, nlt_F, neq_F, neq_T, if_true, if_false, true_and, and_true, Nat.mul_zero, Nat.zero_add, Nat.add_zero, Nat.reduceAdd, Nat.reduceMul, Nat.reduceSub, li_0, li_1, li_2, li_3, li_4, li_5, li_6, li_7, li_8, li_9, li_10, li_11, li_12, li_13, li_14, li_15, li_16, li_20, li_24, li_28, li_31, li_35, li_38, li_40, li_41, li_45, li_48, li_60, li_62, li_63, li_97, li_100, li_104, li_105, li_120, li_124, li_127, li_180, li_239, li_240, li_255, li_256, li_300, li_400, li_960, li_1000000])
      · have q33 : σ.1 33 L' = nI b := by rw [b1.2.2.2.1]; exact hbx
        exact bad (by simp (implicitDefEqProofs := false) (disch := omega) only [tX7_end, mX3_lineCount, mX3_openCount, mX0_open, mX3_boxOf, mX6_known, a8, a3, q33, h6, Nat.add_sub_cancel, ↓bnd_e, ↓ob_s, ob_s, su_1, su_2, sl_1, sl_2, ↓ck_n, ck_n, ck_Z0, ck_Z1, c_lt, c_le, c_eq, ng_1, m_ne, m_en, m_lt, m_le, m_gt, m_ge, n_add, n_mul, n_sub, n_sm, n_pm, n_0m, n_cl, Nat.reduceEqDiff, ↓reduceIte, nle_T, nle_F, nlt_T, nlt_F, neq_F, neq_T, if_true, if_false, true_and, and_true, Nat.mul_zero, Nat.zero_add, Nat.add_zero, Nat.reduceAdd, Nat.reduceMul, Nat.reduceSub, li_0, li_1, li_2, li_3, li_4, li_5, li_6, li_7, li_8, li_9, li_10, li_11, li_12, li_13, li_14, li_15, li_16, li_20, li_24, li_28, li_31, li_35, li_38, li_40, li_41, li_45, li_48, li_60, li_62, li_63, li_97, li_100, li_104, li_105, li_120, li_124, li_127, li_180, li_239, li_240, li_255, li_256, li_300, li_400, li_960, li_1000000]) (by simp (implicitDefEqProofs := false) (disch := omega) only [mX8_end, mX8_end_44, mX8_no, a6, i1, hbx, h10, Nat.add_sub_cancel, ↓bnd_e, ↓ob_s, ob_s, su_1, su_2, sl_1, sl_2, ↓ck_n, ck_n, ck_Z0, ck_Z1, c_lt, c_le, c_eq, ng_1, m_ne, m_en, m_lt, m_le, m_gt, m_ge, n_add, n_mul, n_sub, n_sm, n_pm, n_0m, n_cl, Nat.reduceEqDiff, ↓reduceIte, nle_T, nle_F, nlt_T, nlt_F, neq_F, neq_T, if_true, if_false, true_and, and_true, Nat.mul_zero, Nat.zero_add, Nat.add_zero, Nat.reduceAdd, Nat.reduceMul, Nat.reduceSub, li_0, li_1, li_2, li_3, li_4, li_5, li_6, li_7, li_8, li_9, li_10, li_11, li_12, li_13, li_14, li_15, li_16, li_20, li_24, li_28, li_31, li_35, li_38, li_40, li_41, li_45, li_48, li_60, li_62, li_63, li_97, li_100, li_104, li_105, li_120, li_124, li_127, li_180, li_239, li_240, li_255, li_256, li_300, li_400, li_960, li_1000000])
    · have hO := (dd1 b hb).1
      exact bad (by simp (implicitDefEqProofs := false) (disch := omega) only [tX7_end, mX3_lineCount, mX3_openCount, mX0_open, a8, a3, Nat.add_sub_cancel, ↓bnd_e, ↓ob_s, ob_s, su_1, su_2, sl_1, sl_2, ↓ck_n, ck_n, ck_Z0, ck_Z1, c_lt, c_le, c_eq, ng_1, m_ne, m_en, m_lt, m_le, m_gt, m_ge, n_add, n_mul, n_sub, n_sm, n_pm, n_0m, n_cl, Nat.reduceEqDiff, ↓reduceIte, nle_T, nle_F, nlt_T, nlt_F, neq_F, neq_T, if_true, if_false, true_and, and_true, Nat.mul_zero, Nat.zero_add, Nat.add_zero, Nat.reduceAdd, Nat.reduceMul, Nat.reduceSub, li_0, li_1, li_2, li_3, li_4, li_5, li_6, li_7, li_8, li_9, li_10, li_11, li_12, li_13, li_14, li_15, li_16, li_20, li_24, li_28, li_31, li_35, li_38, li_40, li_41, li_45, li_48, li_60, li_62, li_63, li_97, li_100, li_104, li_105, li_120, li_124, li_127, li_180, li_239, li_240, li_255, li_256, li_300, li_400, li_960, li_1000000]) (by simp (implicitDefEqProofs := false) (disch := omega) only [mX8_end, mX8_end_44, mX8_no, a6, i2, Nat.add_sub_cancel, ↓bnd_e, ↓ob_s, ob_s, su_1, su_2, sl_1, sl_2, ↓ck_n, ck_n, ck_Z0, ck_Z1, c_lt, c_le, c_eq, ng_1, m_ne, m_en, m_lt, m_le, m_gt, m_ge, n_add, n_mul, n_sub, n_sm, n_pm, n_0m, n_cl, Nat.reduceEqDiff, ↓reduceIte, nle_T, nle_F, nlt_T, nlt_F, neq_F, neq_T, if_true, if_false, true_and, and_true, Nat.mul_zero, Nat.zero_add, Nat.add_zero, Nat.reduceAdd, Nat.reduceMul, Nat.reduceSub, li_0, li_1, li_2, li_3, li_4, li_5, li_6, li_7, li_8, li_9, li_10, li_11, li_12, li_13, li_14, li_15, li_16, li_20, li_24, li_28, li_31, li_35, li_38, li_40, li_41, li_45, li_48, li_60, li_62, li_63, li_97, li_100, li_104, li_105, li_120, li_124, li_127, li_180, li_239, li_240, li_255, li_256, li_300, li_400, li_960, li_1000000])
