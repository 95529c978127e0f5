def kE : List Nat := [34, 22, 23, 24, 25, 26, 27, 6, 9, 10, 11, 7, 8]
theorem op_end {F T L B n m : Nat} {σ : St} (h : GI F T (L + 1) B n 0 m σ) (hbx' : σ.1 33 L = mI) (hT16 : T < 16) :
    ∃ c σ', mX7_end σ = some (nI T, σ') ∧ 1 ≤ c ∧ c ≤ L + 1 ∧ GI F (T + 1) 0 0 0 0 0 σ' ∧ σ'.1 22 = upd (σ.1 22) T (σ.1 29 L) ∧ σ'.1 25 = upd (σ.1 25) T (nI (L + 1)) ∧ σ'.1 26 = upd (σ.1 26) T (nI c) ∧ KE kE σ σ' ∧ σ'.2 = σ.2 ∧ mX6_premises σ' (nI T) = some (nI m) := by
  obtain ⟨c, s9, n1, n3, n8, n4, n5, _⟩ := q_need h
  obtain ⟨τ, q, pm, tt, sn, ce⟩ := h
  have hm := q.pm pm
  obtain ⟨hf, ht, hp, hh, ⟨a8, a6, a1, a2, a7, a9, a3, a4⟩, b1, c1, d1, hH⟩ := q
  have hI := hH.inv
  obtain ⟨hL60, hBL, hO6⟩ := hI.1
  have hF := hf.le
  obtain ⟨hT, h6, h10⟩ := hh.1
  have e3 := x3_prem hL60 a8 b1.2.1 hm
  obtain ⟨⟨fl, fl1, fl2⟩, _⟩ := hI.2.1 L (by omega)
  have q33 : σ.1 33 L = mI := hbx'
  obtain ⟨v0, v1, hv0, hv1, ec⟩ : ∃ v0 v1 : Int32, (if 0 < m then ∃ f, f < F ∧ v0 = nI f else v0 = mI) ∧ (if 1 < m then ∃ f, f < F ∧ v1 = nI f else v1 = mI) ∧ mX7_end σ = mX7_end_111 σ (nI L) v0 v1 := by
    have hm3 : m = 0 ∨ m = 1 ∨ m = 2 := by have := hm.1; omega
    have hmL := hm.2.1
    rcases hm3 with rfl | rfl | rfl
    · refine ⟨mI, mI, rfl, rfl, ?_⟩
      simp (implicitDefEqProofs := false) (disch := omega) only [mX7_end, mX7_end_93, mX3_lineCount, mX3_openCount, mX0_open, mX3_boxOf, mX6_known, a8, a3, q33, h6, e3, Nat.add_sub_cancel, ↓bnd_e, ↓ob_s, ob_s, su_1, su_2, sl_1, sl_2, ↓ck_n, ck_n, ck_Z0, ck_Z1, c_lt, c_le, c_eq, ng_1, m_ne, m_en, m_lt, m_le, m_gt, m_ge, n_add, n_mul, n_sub, n_sm, n_pm, n_0m, n_cl, Nat.reduceEqDiff, ↓reduceIte, nle_T, nle_F, nlt_T, nlt_F, neq_F, neq_T, if_true, if_false, true_and, and_true, Nat.mul_zero, Nat.zero_add, Nat.add_zero, Nat.reduceAdd, Nat.reduceMul, Nat.reduceSub, li_0, li_1, li_2, li_3, li_4, li_5, li_6, li_7, li_8, li_9, li_10, li_11, li_12, li_13, li_14, li_15, li_16, li_20, li_24, li_28, li_31, li_35, li_38, li_40, li_41, li_45, li_48, li_60, li_62, li_63, li_97, li_100, li_104, li_105, li_120, li_124, li_127, li_180, li_239, li_240, li_255, li_256, li_300, li_400, li_960, li_1000000]
    · obtain ⟨⟨f0, f01, f02⟩, _⟩ := hI.2.1 0 (by omega)
      have q0 : σ.1 29 0 = τ.1 21 0 := by rw [b1.1]
      refine ⟨τ.1 21 0, mI, ⟨f0, f01, f02⟩, rfl, ?_⟩
      simp (implicitDefEqProofs := false) (disch := omega) only [mX7_end, mX7_end_93, mX3_lineCount, mX3_openCount, mX0_open, mX3_boxOf, mX3_formulaOf, mX6_known, a8, a3, q33, h6, e3, q0, Nat.add_sub_cancel, ↓bnd_e, ↓ob_s, ob_s, su_1, su_2, sl_1, sl_2, ↓ck_n, ck_n, ck_Z0, ck_Z1, c_lt, c_le, c_eq, ng_1, m_ne, m_en, m_lt, m_le, m_gt, m_ge, n_add, n_mul, n_sub, n_sm, n_pm, n_0m, n_cl, Nat.reduceEqDiff, ↓reduceIte, nle_T, nle_F, nlt_T, nlt_F, neq_F, neq_T, if_true, if_false, true_and, and_true, Nat.mul_zero, Nat.zero_add, Nat.add_zero, Nat.reduceAdd, Nat.reduceMul, Nat.reduceSub, li_0, li_1, li_2, li_3, li_4, li_5, li_6, li_7, li_8, li_9, li_10, li_11, li_12, li_13, li_14, li_15, li_16, li_20, li_24, li_28, li_31, li_35, li_38, li_40, li_41, li_45, li_48, li_60, li_62, li_63, li_97, li_100, li_104, li_105, li_120, li_124, li_127, li_180, li_239, li_240, li_255, li_256, li_300, li_400, li_960, li_1000000]
    · obtain ⟨⟨f0, f01, f02⟩, _⟩ := hI.2.1 0 (by omega)
      obtain ⟨⟨f1, f11, f12⟩, _⟩ := hI.2.1 1 (by omega)
      have q0 : σ.1 29 0 = τ.1 21 0 := by rw [b1.1]
      have q1 : σ.1 29 1 = τ.1 21 1 := by rw [b1.1]
      refine ⟨τ.1 21 0, τ.1 21 1, ⟨f0, f01, f02⟩, ⟨f1, f11, f12⟩, ?_⟩
      simp (implicitDefEqProofs := false) (disch := omega) only [mX7_end, mX7_end_93, mX3_lineCount, mX3_openCount, mX0_open, mX3_boxOf, mX3_formulaOf, mX6_known, a8, a3, q33, h6, e3, q0, q1, Nat.add_sub_cancel, ↓bnd_e, ↓ob_s, ob_s, su_1, su_2, sl_1, sl_2, ↓ck_n, ck_n, ck_Z0, ck_Z1, c_lt, c_le, c_eq, ng_1, m_ne, m_en, m_lt, m_le, m_gt, m_ge, n_add, n_mul, n_sub, n_sm, n_pm, n_0m, n_cl, Nat.reduceEqDiff, ↓reduceIte, nle_T, nle_F, nlt_T, nlt_F, neq_F, neq_T, if_true, if_false, true_and, and_true, Nat.mul_zero, Nat.zero_add, Nat.add_zero, Nat.reduceAdd, Nat.reduceMul, Nat.reduceSub, li_0, li_1, li_2, li_3, li_4, li_5, li_6, li_7, li_8, li_9, li_10, li_11, li_12, li_13, li_14, li_15, li_16, li_20, li_24, li_28, li_31, li_35, li_38, li_40, li_41, li_45, li_48, li_60, li_62, li_63, li_97, li_100, li_104, li_105, li_120, li_124, li_127, li_180, li_239, li_240, li_255, li_256, li_300, li_400, li_960, li_1000000]
  obtain ⟨σ', es⟩ : ∃ v, v = su (su (su (su (su (su (su (su (su (su (su (su s9 22 (upd (σ.1 22) T (τ.1 21 L))) 23 (upd (σ.1 23) T v0)) 24 (upd (σ.1 24) T v1)) 25 (upd (σ.1 25) T (nI (L + 1)))) 26 (upd (σ.1 26) T (nI c))) 27 (upd (σ.1 27) T (nI 0))) 6 (fun _ => nI (T + 1))) 9 (fun _ => nI 0)) 10 (fun _ => nI 0)) 11 (fun _ => mI)) 7 (fun _ => nI 0)) 8 (fun _ => nI 0) := ⟨_, rfl⟩
  obtain ⟨τ', et⟩ : ∃ v, v = su (su (su (su (su (su (su (su (su (su (su τ 29 (upd (τ.1 29) T (τ.1 21 L))) 30 (upd (τ.1 30) T (nI m))) 31 (upd (upd (τ.1 31) (2 * T) v0) (2 * T + 1) v1)) 32 (upd (τ.1 32) T (nI (L + 1)))) 33 (upd (τ.1 33) T (nI c))) 34 (upd (τ.1 34) T (nI 0))) 10 (fun _ => nI (T + 1))) 6 (fun _ => nI 0)) 7 (fun _ => nI 0)) 8 (fun _ => mI)) 9 (fun _ => nI 0) := ⟨_, rfl⟩
  have kσ : KE kE σ σ' := by rw [es]; exact ((((((((((((n4.wk (by decide)).s (by decide)).s (by decide)).s (by decide)).s (by decide)).s (by decide)).s (by decide)).s (by decide)).s (by decide)).s (by decide)).s (by decide)).s (by decide)).s (by decide)
  have kτ : KE [29, 30, 31, 32, 33, 34, 10, 6, 7, 8, 9] τ τ' := by rw [et]; exact ((((((((((KE.rf.s (by decide)).s (by decide)).s (by decide)).s (by decide)).s (by decide)).s (by decide)).s (by decide)).s (by decide)).s (by decide)).s (by decide)).s (by decide)
  have t29 : τ'.1 29 = upd (τ.1 29) T (τ.1 21 L) := by rw [et]; rfl
  have t30 : τ'.1 30 = upd (τ.1 30) T (nI m) := by rw [et]; rfl
  have t31 : τ'.1 31 = upd (upd (τ.1 31) (2 * T) v0) (2 * T + 1) v1 := by rw [et]; rfl
  have t32 : τ'.1 32 = upd (τ.1 32) T (nI (L + 1)) := by rw [et]; rfl
  have t33 : τ'.1 33 = upd (τ.1 33) T (nI c) := by rw [et]; rfl
  have t34 : τ'.1 34 = upd (τ.1 34) T (nI 0) := by rw [et]; rfl
  have t10 : τ'.1 10 0 = nI (T + 1) := by rw [et]; rfl
  have z22 : σ'.1 22 = upd (σ.1 22) T (τ.1 21 L) := by rw [es]; rfl
  have z23 : σ'.1 23 = upd (σ.1 23) T v0 := by rw [es]; rfl
  have z24 : σ'.1 24 = upd (σ.1 24) T v1 := by rw [es]; rfl
  have z25 : σ'.1 25 = upd (σ.1 25) T (nI (L + 1)) := by rw [es]; rfl
  have z26 : σ'.1 26 = upd (σ.1 26) T (nI c) := by rw [es]; rfl
  have z27 : σ'.1 27 = upd (σ.1 27) T (nI 0) := by rw [es]; rfl
  have z6 : σ'.1 6 0 = nI (T + 1) := by rw [es]; rfl
  have z2 : σ'.2 = σ.2 := by rw [es]; exact n5.2
  have hRH : RH F (T + 1) σ' τ' := by
    obtain ⟨e22, e25, e26, e27⟩ := hh.2.1
    refine ⟨⟨by omega, z6, t10⟩, ⟨by rw [z22, t29, e22], by rw [z25, t32, e25], by rw [z26, t33, e26], by rw [z27, t34, e27]⟩, fun t ht => ?_⟩
    unfold HJ
    rw [z23, z24, t29, t30, t31, t32, t33]
    by_cases e : t = T
    · subst e
      rw [pk_us, pk_us, pk_us, pk_us, pk_us, pk_us, pk_un (show 2 * t ≠ 2 * t + 1 by omega), pk_us, pk_us]
      refine ⟨⟨fl, fl1, fl2⟩, rfl, rfl, ⟨m, hm.1, rfl, fun w hw => ?_⟩, L + 1, c, by omega, hL60, n3, rfl, rfl⟩
      have hw2 : w = 0 ∨ w = 1 := by omega
      rcases hw2 with rfl | rfl
      · show if 0 < m then ∃ f, f < F ∧ upd (upd (τ.1 31) (2 * t) v0) (2 * t + 1) v1 (2 * t) = nI f else upd (upd (τ.1 31) (2 * t) v0) (2 * t + 1) v1 (2 * t) = mI
        rw [pk_un (show 2 * t ≠ 2 * t + 1 by omega), pk_us]; exact hv0
      · rw [pk_us]; exact hv1
    · obtain ⟨x1, x2, x3, ⟨m', m1, m2, m3⟩, x5⟩ := hh.2.2 t (by omega)
      rw [pk_un e, pk_un e, pk_un e, pk_un e, pk_un e, pk_un e, pk_un (show 2 * t ≠ 2 * T + 1 by omega), pk_un (show 2 * t ≠ 2 * T by omega), pk_un (show 2 * t + 1 ≠ 2 * T + 1 by omega), pk_un (show 2 * t + 1 ≠ 2 * T by omega)]
      refine ⟨x1, x2, x3, ⟨m', m1, m2, fun w hw => ?_⟩, x5⟩
      rw [pk_un (show 2 * t + w ≠ 2 * T + 1 by omega), pk_un (show 2 * t + w ≠ 2 * T by omega)]
      exact m3 w hw
  have q' : QV F (T + 1) 0 0 0 0 σ' τ' := by
    refine ⟨hf.c (.k kσ (by decide)) z2 (.k kτ (by decide)), ht.c (.k kσ (by decide)) (.k kτ (by decide)), hp.c (.k kσ (by decide)) (.k kτ (by decide)), hRH, ⟨?_, ?_, ?_, ?_, ?_, ?_, ?_, ?_⟩, ⟨?_, ?_, ?_, ?_, ?_, ?_, ?_⟩, fun i hi => absurd hi (by omega), fun k hk => absurd hk (by omega), rfl, rfl, rfl, ?_⟩
    · rw [es]; rfl
    · rw [et]; rfl
    · rw [es]; rfl
    · rw [et]; rfl
    · rw [es]; rfl
    · rw [et]; rfl
    · rw [es]; rfl
    · rw [es, et]; rfl
    · rw [kσ 29 (by decide), kτ 21 (by decide)]; exact b1.1
    · rw [kσ 30 (by decide), kτ 22 (by decide)]; exact b1.2.1
    · rw [kσ 31 (by decide), kτ 23 (by decide)]; exact b1.2.2.1
    · rw [kσ 33 (by decide), kτ 24 (by decide)]; exact b1.2.2.2.1
    · rw [kσ 36 (by decide), kτ 25 (by decide)]; exact b1.2.2.2.2.1
    · rw [kσ 37 (by decide), kτ 26 (by decide)]; exact b1.2.2.2.2.2.1
    · rw [kσ 38 (by decide), kτ 27 (by decide)]; exact b1.2.2.2.2.2.2
    · rw [et]; rfl
  refine ⟨c, σ', ?_, n8 (by omega), n3, ⟨τ', q', ⟨by omega, by omega, fun k hk => absurd hk (by omega)⟩, tt.c z2 (kσ 12 (by decide)) (kσ 13 (by decide)) (kσ 14 (by decide)), fun k hk => absurd hk (by omega), fun b hb => absurd hb (by omega)⟩, by rw [z22, b1.1], z25, z26, kσ, z2, ?_⟩
  · rw [ec, es]
    have q29 : σ.1 29 L = τ.1 21 L := by rw [b1.1]
    have w6 : s9.1 6 0 = nI T := by rw [n4 6 (by decide)]; exact h6
    have w22 := n4 22 (by decide)
    have w23 := n4 23 (by decide)
    have w24 := n4 24 (by decide)
    have w25 := n4 25 (by decide)
    have w26 := n4 26 (by decide)
    have w27 := n4 27 (by decide)
    simp (implicitDefEqProofs := false) (disch := omega) only [mX7_end_111, mX3_formulaOf, a8, q29, n1, mX6_add, w6, w22, w23, w24, w25, w26, w27, mX3_clear, mX0_clear, ↓bnd_e, ↓ob_s, ob_s, su_1, su_2, sl_1, sl_2, ↓ck_n, ck_n, ck_Z0, ck_Z1, c_lt, c_le, c_eq, ng_1, m_ne, m_en, m_lt, m_le, m_gt, m_ge, n_add, n_mul, n_sub, n_sm, n_pm, n_0m, n_cl, Nat.reduceEqDiff, ↓reduceIte, nle_T, nle_F, nlt_T, nlt_F, neq_F, neq_T, if_true, if_false, true_and, and_true, Nat.mul_zero, Nat.zero_add, Nat.add_zero, Nat.reduceAdd, Nat.reduceMul, Nat.reduceSub, li_0, li_1, li_2, li_3, li_4, li_5, li_6, li_7, li_8, li_9, li_10, li_11, li_12, li_13, li_14, li_15, li_16, li_20, li_24, li_28, li_31, li_35, li_38, li_40, li_41, li_45, li_48, li_60, li_62, li_63, li_97, li_100, li_104, li_105, li_120, li_124, li_127, li_180, li_239, li_240, li_255, li_256, li_300, li_400, li_960, li_1000000]
  · rcases x6_prem hF hRH (nI T) with ⟨t', m', ht', e, _, e30, ep, _⟩ | ⟨hn, _⟩
    · rw [c_eq (by omega) (by omega)] at e
      subst e
      rw [t30, pk_us] at e30
      rw [e30]; exact ep
    · exact (hn T (by omega) rfl).elim
theorem op_begin {F T L B n O m : Nat} {σ : St} (h : GI F T L B n O m σ) : ∃ σ', mX7_begin σ = some (nI L, σ') ∧ GI F T 0 0 0 0 0 σ' ∧ KE [7, 8, 9, 10, 11] σ σ' ∧ σ'.2 = σ.2 := by
  obtain ⟨τ, q, pm, tt, sn, ce⟩ := h
  obtain ⟨hf, ht, hp, hh, ⟨a8, a6, a1, a2, a7, a9, a3, a4⟩, b1, c1, d1, hH⟩ := q
  obtain ⟨σ', es⟩ : ∃ v, v = su (su (su (su (su σ 9 (fun _ => nI 0)) 10 (fun _ => nI 0)) 11 (fun _ => mI)) 7 (fun _ => nI 0)) 8 (fun _ => nI 0) := ⟨_, rfl⟩
  obtain ⟨τ', et⟩ : ∃ v, v = su (su (su (su τ 6 (fun _ => nI 0)) 7 (fun _ => nI 0)) 8 (fun _ => mI)) 9 (fun _ => nI 0) := ⟨_, rfl⟩
  have kσ : KE [7, 8, 9, 10, 11] σ σ' := by rw [es]; exact ((((KE.rf.s (by decide)).s (by decide)).s (by decide)).s (by decide)).s (by decide)
  have kτ : KE [6, 7, 8, 9] τ τ' := by rw [et]; exact (((KE.rf.s (by decide)).s (by decide)).s (by decide)).s (by decide)
  have z2 : σ'.2 = σ.2 := by rw [es]; rfl
  refine ⟨σ', ?_, ⟨τ', ⟨hf.c (.k kσ (by decide)) z2 (.k kτ (by decide)), ht.c (.k kσ (by decide)) (.k kτ (by decide)), hp.c (.k kσ (by decide)) (.k kτ (by decide)), hh.c (Nat.le_refl _) (.k kσ (by decide)) (.k kτ (by decide)), ⟨?_, ?_, ?_, ?_, ?_, ?_, ?_, ?_⟩, ⟨?_, ?_, ?_, ?_, ?_, ?_, ?_⟩, fun i hi => absurd hi (by omega), fun k hk => absurd hk (by omega), rfl, rfl, rfl, ?_⟩, ⟨by omega, by omega, fun k hk => absurd hk (by omega)⟩, tt.c z2 (kσ 12 (by decide)) (kσ 13 (by decide)) (kσ 14 (by decide)), fun k hk => absurd hk (by omega), fun b hb => absurd hb (by omega)⟩, kσ, z2⟩
  · rw [es]
    simp (implicitDefEqProofs := false) (disch := omega) only [mX7_begin, mX3_lineCount, mX3_clear, mX0_clear, a8, ↓bnd_e, ↓ob_s, ob_s, su_1, su_2, sl_1, sl_2, ↓ck_n, ck_n, ck_Z0, ck_Z1, c_lt, c_le, c_eq, ng_1, m_ne, m_en, m_lt, m_le, m_gt, m_ge, n_add, n_mul, n_sub, n_sm, n_pm, n_0m, n_cl, Nat.reduceEqDiff, ↓reduceIte, nle_T, nle_F, nlt_T, nlt_F, neq_F, neq_T, if_true, if_false, true_and, and_true, Nat.mul_zero, Nat.zero_add, Nat.add_zero, Nat.reduceAdd, Nat.reduceMul, Nat.reduceSub, li_0, li_1, li_2, li_3, li_4, li_5, li_6, li_7, li_8, li_9, li_10, li_11, li_12, li_13, li_14, li_15, li_16, li_20, li_24, li_28, li_31, li_35, li_38, li_40, li_41, li_45, li_48, li_60, li_62, li_63, li_97, li_100, li_104, li_105, li_120, li_124, li_127, li_180, li_239, li_240, li_255, li_256, li_300, li_400, li_960, li_1000000]
  · rw [es]; rfl
  · rw [et]; rfl
  · rw [es]; rfl
  · rw [et]; rfl
  · rw [es]; rfl
  · rw [et]; rfl
  · rw [es]; rfl
  · rw [es, et]; rfl
  · rw [kσ 29 (by decide), kτ 21 (by decide)]; exact b1.1
  · rw [kσ 30 (by decide), kτ 22 (by decide)]; exact b1.2.1
  · rw [kσ 31 (by decide), kτ 23 (by decide)]; exact b1.2.2.1
  · rw [kσ 33 (by decide), kτ 24 (by decide)]; exact b1.2.2.2.1
  · rw [kσ 36 (by decide), kτ 25 (by decide)]; exact b1.2.2.2.2.1
  · rw [kσ 37 (by decide), kτ 26 (by decide)]; exact b1.2.2.2.2.2.1
  · rw [kσ 38 (by decide), kτ 27 (by decide)]; exact b1.2.2.2.2.2.2
  · rw [et]; rfl
/-- each formula for itself -/
theorem id_mt {F : Nat} {σ τ : St} (h : RF F σ τ) : mtG F τ (fun p => nI p) := by
  have hF := h.le
  refine ⟨fun p hp => Or.inr ⟨p, hp, rfl⟩, fun p f hp hf e => ?_⟩
  have e' : nI p = nI f := e
  rw [c_eq (by omega) (by omega)] at e'
  subst e'
  rcases mt_parts h hp hp rfl with q | q | ⟨q, a, b, ha, hb, x1, x2⟩ | ⟨s, s3, s5, q, a, b, c, d, ha, hb, hc, hd, x1, x2, x3, x4⟩
  · exact Or.inl q
  · exact Or.inr ⟨rfl, Or.inl q⟩
  · refine Or.inr ⟨rfl, Or.inr ⟨?_, Or.inl q⟩⟩
    rw [x1, n_cl (by omega)]
  · refine Or.inr ⟨rfl, Or.inr ⟨?_, Or.inr ?_⟩⟩
    · rw [x1, n_cl (by omega)]
    · rw [x3, n_cl (by omega)]
/-- a theorem says its own conclusion -/
theorem says_id {F T t c : Nat} {σ τ : St} (hf : RF F σ τ) (hT : T ≤ 16) (h6 : σ.1 6 0 = nI T) (ht : t < T) (hc : c < F) (e22 : σ.1 22 t = nI c) :
    ∃ s', mX6_saysWithPremises σ (nI t) (nI c) mI mI = some (nI 1, s') ∧ KE [28] σ s' ∧ s'.2 = σ.2 ∧ mtG F τ (s'.1 28) ∧ s'.1 28 c = nI c ∧ ∀ φ, mtG F τ φ → φ c = nI c → mtS F (s'.1 28) φ := by
  obtain ⟨b, s', r1, r2, r3, r4⟩ := says_c (m := 0) (x := 0) (y := 0) (p1 := 0) (p2 := 0) hf hT h6 ht hc hc (by omega) e22 (fun h => absurd h (by omega)) (fun h => absurd h (by omega))
  have hb : b = true := (r4.2 (fun p => nI p) (id_mt hf) ⟨rfl, fun h => absurd h (by omega), fun h => absurd h (by omega)⟩).1
  subst hb
  obtain ⟨⟨k1, _, _⟩, k2⟩ := r4.1 rfl
  exact ⟨s', r1, r2, r3, k2, k1, fun φ y1 y2 => (r4.2 φ y1 ⟨y2, fun h => absurd h (by omega), fun h => absurd h (by omega)⟩).2⟩
/-- a theorem without premises, used for itself: it holds, and taking it back leaves the proof empty -/
theorem op_13 {F T t c : Nat} {σ : St} (h : GI F T 0 0 0 0 0 σ) (htT : t < T) (hc : c < F) (e22 : σ.1 22 t = nI c) (ep : mX6_premises σ (nI t) = some (nI 0)) (taut : ∀ q, q < 256 → tv σ c q = true) :
    ∃ σ', mX7_step σ 13 (nI c) (nI t) 0 0 = some (nI 0, σ') ∧ mX7_fails σ' 0 = some (nI 0) ∧ ∃ u, mX7_undo σ' = some (nI 0, u) ∧ GI F T 0 0 0 0 0 u ∧ KE (27 :: kP) σ u ∧ u.2 = σ.2 := by
  obtain ⟨τ, q, pm, tt, sn, ce⟩ := h
  have k1 := q.kn hc
  have vv := q.vv
  obtain ⟨hf, ht, hp, hh, ⟨a8, a6, a1, a2, a7, a9, a3, a4⟩, b1, c1, d1, hH⟩ := q
  have hF := hf.le
  have hT := hh.1.1
  have h6 := hh.1.2.1
  have e30 : τ.1 30 t = nI 0 := by
    rcases x6_prem hF hh (nI t) with ⟨t', m', ht', e, m2, e30, ep', _⟩ | ⟨hn, _⟩
    · rw [c_eq (by omega) (by omega)] at e
      subst e
      rw [ep] at ep'
      rw [e30, ← Option.some.inj ep']
    · exact (hn t htT rfl).elim
  obtain ⟨s', r1, r2, r3, _, _, _⟩ := says_id hf hT h6 htT hc e22
  obtain ⟨v, hv⟩ := fo_tot (L := 0) (by omega) a8 (nI t)
  have e5 : mX4_theoremFits σ (nI c) (nI t) (nI 0) (nI 0) = some (nI 1, s') := by
    have e6 : mX4_theoremFits σ (nI c) (nI t) (nI 0) (nI 0) = (mX6_saysWithPremises σ (nI t) (nI c) mI mI).bind fun ⟨r6, s8⟩ => chkZ r6 (some (r6, s8)) := by
      simp (implicitDefEqProofs := false) (disch := omega) only [mX4_theoremFits, mX4_theoremFits_27, mX4_theoremFits_48, ep, ↓bnd_e, ↓ob_s, ob_s, su_1, su_2, sl_1, sl_2, ↓ck_n, ck_n, ck_Z0, ck_Z1, c_lt, c_le, c_eq, ng_1, m_ne, m_en, m_lt, m_le, m_gt, m_ge, n_add, n_mul, n_sub, n_sm, n_pm, n_0m, n_cl, Nat.reduceEqDiff, ↓reduceIte, nle_T, nle_F, nlt_T, nlt_F, neq_F, neq_T, if_true, if_false, true_and, and_true, Nat.mul_zero, Nat.zero_add, Nat.add_zero, Nat.reduceAdd, Nat.reduceMul, Nat.reduceSub, li_0, li_1, li_2, li_3, li_4, li_5, li_6, li_7, li_8, li_9, li_10, li_11, li_12, li_13, li_14, li_15, li_16, li_20, li_24, li_28, li_31, li_35, li_38, li_40, li_41, li_45, li_48, li_60, li_62, li_63, li_97, li_100, li_104, li_105, li_120, li_124, li_127, li_180, li_239, li_240, li_255, li_256, li_300, li_400, li_960, li_1000000]
    rw [e6, r1, ob_s]
    rfl
  have hm : 13 = 13 → 0 ≤ 2 ∧ mX6_premises σ (nI t) = some (nI 0) := fun _ => ⟨by omega, ep⟩
  have q0 := x3_kind (s := σ) (r := 13) (m := 0) (w := 0) (x := nI t) (by omega) (by omega) hm
  have q1 := x3_kind (s := σ) (r := 13) (m := 0) (w := 1) (x := nI t) (by omega) (by omega) hm
  have q2 := x3_kind (s := σ) (r := 13) (m := 0) (w := 2) (x := nI t) (by omega) (by omega) hm
  have g0 : mX4_reaches σ (nI (kdM 13 0 0)) (nI t) = some (zB true) := by
    show mX4_reaches σ (nI 3) (nI t) = some (nI 1)
    simp (implicitDefEqProofs := false) (disch := omega) only [mX4_reaches, mX6_isKnown, h6, ↓bnd_e, ↓ob_s, ob_s, su_1, su_2, sl_1, sl_2, ↓ck_n, ck_n, ck_Z0, ck_Z1, c_lt, c_le, c_eq, ng_1, m_ne, m_en, m_lt, m_le, m_gt, m_ge, n_add, n_mul, n_sub, n_sm, n_pm, n_0m, n_cl, Nat.reduceEqDiff, ↓reduceIte, nle_T, nle_F, nlt_T, nlt_F, neq_F, neq_T, if_true, if_false, true_and, and_true, Nat.mul_zero, Nat.zero_add, Nat.add_zero, Nat.reduceAdd, Nat.reduceMul, Nat.reduceSub, li_0, li_1, li_2, li_3, li_4, li_5, li_6, li_7, li_8, li_9, li_10, li_11, li_12, li_13, li_14, li_15, li_16, li_20, li_24, li_28, li_31, li_35, li_38, li_40, li_41, li_45, li_48, li_60, li_62, li_63, li_97, li_100, li_104, li_105, li_120, li_124, li_127, li_180, li_239, li_240, li_255, li_256, li_300, li_400, li_960, li_1000000]
  have g1 : mX4_reaches σ (nI (kdM 13 0 1)) (nI 0) = some (zB true) := by
    show mX4_reaches σ (nI 0) (nI 0) = some (nI 1)
    simp (implicitDefEqProofs := false) (disch := omega) only [mX4_reaches, ↓bnd_e, ↓ob_s, ob_s, su_1, su_2, sl_1, sl_2, ↓ck_n, ck_n, ck_Z0, ck_Z1, c_lt, c_le, c_eq, ng_1, m_ne, m_en, m_lt, m_le, m_gt, m_ge, n_add, n_mul, n_sub, n_sm, n_pm, n_0m, n_cl, Nat.reduceEqDiff, ↓reduceIte, nle_T, nle_F, nlt_T, nlt_F, neq_F, neq_T, if_true, if_false, true_and, and_true, Nat.mul_zero, Nat.zero_add, Nat.add_zero, Nat.reduceAdd, Nat.reduceMul, Nat.reduceSub, li_0, li_1, li_2, li_3, li_4, li_5, li_6, li_7, li_8, li_9, li_10, li_11, li_12, li_13, li_14, li_15, li_16, li_20, li_24, li_28, li_31, li_35, li_38, li_40, li_41, li_45, li_48, li_60, li_62, li_63, li_97, li_100, li_104, li_105, li_120, li_124, li_127, li_180, li_239, li_240, li_255, li_256, li_300, li_400, li_960, li_1000000]
  have g2 : mX4_reaches σ (nI (kdM 13 0 2)) (nI 0) = some (zB true) := by
    show mX4_reaches σ (nI 0) (nI 0) = some (nI 1)
    simp (implicitDefEqProofs := false) (disch := omega) only [mX4_reaches, ↓bnd_e, ↓ob_s, ob_s, su_1, su_2, sl_1, sl_2, ↓ck_n, ck_n, ck_Z0, ck_Z1, c_lt, c_le, c_eq, ng_1, m_ne, m_en, m_lt, m_le, m_gt, m_ge, n_add, n_mul, n_sub, n_sm, n_pm, n_0m, n_cl, Nat.reduceEqDiff, ↓reduceIte, nle_T, nle_F, nlt_T, nlt_F, neq_F, neq_T, if_true, if_false, true_and, and_true, Nat.mul_zero, Nat.zero_add, Nat.add_zero, Nat.reduceAdd, Nat.reduceMul, Nat.reduceSub, li_0, li_1, li_2, li_3, li_4, li_5, li_6, li_7, li_8, li_9, li_10, li_11, li_12, li_13, li_14, li_15, li_16, li_20, li_24, li_28, li_31, li_35, li_38, li_40, li_41, li_45, li_48, li_60, li_62, li_63, li_97, li_100, li_104, li_105, li_120, li_124, li_127, li_180, li_239, li_240, li_255, li_256, li_300, li_400, li_960, li_1000000]
  have er : mX4_refusal σ (nI 13) (nI c) (nI t) (nI 0) (nI 0) = some (nI 0, s') := by
    rw [rf_c (p2 := nI c) q0 q1 q2 g0 g1 g2, if_pos ⟨rfl, rfl, rfl⟩]
    simp (implicitDefEqProofs := false) (disch := omega) only [cT, mX4_hasForm, hv, e5, mX4_refusal_129, ↓bnd_e, ↓ob_s, ob_s, su_1, su_2, sl_1, sl_2, ↓ck_n, ck_n, ck_Z0, ck_Z1, c_lt, c_le, c_eq, ng_1, m_ne, m_en, m_lt, m_le, m_gt, m_ge, n_add, n_mul, n_sub, n_sm, n_pm, n_0m, n_cl, Nat.reduceEqDiff, ↓reduceIte, nle_T, nle_F, nlt_T, nlt_F, neq_F, neq_T, if_true, if_false, true_and, and_true, Nat.mul_zero, Nat.zero_add, Nat.add_zero, Nat.reduceAdd, Nat.reduceMul, Nat.reduceSub, li_0, li_1, li_2, li_3, li_4, li_5, li_6, li_7, li_8, li_9, li_10, li_11, li_12, li_13, li_14, li_15, li_16, li_20, li_24, li_28, li_31, li_35, li_38, li_40, li_41, li_45, li_48, li_60, li_62, li_63, li_97, li_100, li_104, li_105, li_120, li_124, li_127, li_180, li_239, li_240, li_255, li_256, li_300, li_400, li_960, li_1000000]
  obtain ⟨σ2, τ2, y1, y2, y3, y4, y5, y6, z29, z30, zr, z33, z35⟩ := line_rx (σ := s') (τ := τ) (r := 13) (m := 0) (a := nI t) (b := nI 0) (c := nI 0) (f := c) (F := F) (T := T) (L := 0) (B := 0) (n := 0) (O := 0) hT hc (by omega) (by omega) (by omega)
    (by rw [r2 8 (by decide)]; exact a8) a6 (by rw [r2 9 (by decide)]; exact a1) a2 (by rw [r2 7 (by decide)]; exact a7) a9 (by rw [r2 10 (by decide)]; exact a3) (by rw [r2 11 (by decide)]; exact a4)
    (by rw [r2 29 (by decide), r2 30 (by decide), r2 31 (by decide), r2 33 (by decide), r2 36 (by decide), r2 37 (by decide), r2 38 (by decide)]; exact b1)
    (fun i hi => absurd hi (by omega)) (fun k hk => absurd hk (by omega)) hH
    (fun _ => ⟨⟨t, htT, rfl, by omega, e30⟩, by rw [prem_c (r2 6 (by decide)) (r2 23 (by decide)) (r2 24 (by decide))]; exact ep⟩) (fun h => absurd h (by omega)) (fun w hw => by
      have hw3 : w = 0 ∨ w = 1 ∨ w = 2 := by omega
      rcases hw3 with rfl | rfl | rfl
      · exact ⟨fun h => absurd h (by decide), fun h => absurd h (by decide)⟩
      · exact ⟨fun h => absurd h (by decide), fun h => absurd h (by decide)⟩
      · exact ⟨fun h => absurd h (by decide), fun h => absurd h (by decide)⟩)
  have kσ2 : KE (28 :: kA) σ σ2 := (r2.wk (by decide)).tr (y3.wk (by decide))
  have w2 : σ2.2 = σ.2 := y5.trans r3
  obtain ⟨σ', es⟩ : ∃ v, v = su σ2 27 (upd (σ2.1 27) t (σ2.1 27 t + nI 1)) := ⟨_, rfl⟩
  obtain ⟨τ', et⟩ : ∃ v, v = su τ2 34 (upd (τ2.1 34) t (τ2.1 34 t + nI 1)) := ⟨_, rfl⟩
  have ks : KE [27] σ2 σ' := by rw [es]; exact KE.rf.s (by decide)
  have kt : KE [34] τ2 τ' := by rw [et]; exact KE.rf.s (by decide)
  have kσ : KE (27 :: kP) σ σ' := (kσ2.wk (by decide)).tr (ks.wk (by decide))
  have v2 : σ'.2 = σ.2 := by rw [es]; exact w2
  have hh2 : RH F T σ2 τ2 := hh.c (Nat.le_refl _) (.k kσ2 (by decide)) (.k y4 (by decide))
  have q' : QV F T 1 0 1 0 σ' τ' := by
    refine ⟨?_, ?_, ?_, ?_, ?_⟩
    · exact (hf.c (.k kσ2 (by decide)) w2 (.k y4 (by decide))).c (.k ks (by decide)) (by rw [es]; rfl) (.k kt (by decide))
    · exact (ht.c (.k kσ2 (by decide)) (.k y4 (by decide))).c (.k ks (by decide)) (.k kt (by decide))
    · exact (hp.c (.k kσ2 (by decide)) (.k y4 (by decide))).c (.k ks (by decide)) (.k kt (by decide))
    · rw [es, et]; exact RH_use hh2
    · exact y6.c hT (Nat.le_refl _) (.k ks (by decide)) (.k kt (by decide))
  have x29 : σ'.1 29 = upd (s'.1 29) 0 (nI c) := by rw [ks 29 (by decide)]; exact z29
  have x30 : σ'.1 30 = upd (s'.1 30) 0 (nI 13) := by rw [ks 30 (by decide)]; exact z30
  have gi : GI F T 1 0 1 0 0 σ' := by
    refine ⟨τ', q', ⟨by omega, by omega, fun k hk => ?_⟩, tt.c v2 (kσ 12 (by decide)) (kσ 13 (by decide)) (kσ 14 (by decide)), fun k hk z hz _ _ => ?_, fun b hb => absurd hb (by omega)⟩
    · have : k = 0 := by omega
      subst this
      rw [x30, pk_us]
      exact ⟨fun h => absurd h (by decide), fun h => absurd h (by omega)⟩
    · have : k = 0 := by omega
      subst this
      unfold tl
      rw [x29, pk_us, n_cl (by omega)]
      have := taut z hz
      unfold tv at this ⊢
      rw [v2]; exact this
  have s6 : σ2.1 6 0 = nI T := by rw [kσ2 6 (by decide)]; exact h6
  refine ⟨σ', ?_, q_fails gi (show 0 < 1 by omega), ?_⟩
  · rw [es]
    show mX7_step σ (nI 13) (nI c) (nI t) (nI 0) (nI 0) = _
    simp (implicitDefEqProofs := false) (disch := omega) only [mX7_step, k1, mX3_lineCount, a8, er, y1, mX6_noteUse, s6, ↓bnd_e, ↓ob_s, ob_s, su_1, su_2, sl_1, sl_2, ↓ck_n, ck_n, ck_Z0, ck_Z1, c_lt, c_le, c_eq, ng_1, m_ne, m_en, m_lt, m_le, m_gt, m_ge, n_add, n_mul, n_sub, n_sm, n_pm, n_0m, n_cl, Nat.reduceEqDiff, ↓reduceIte, nle_T, nle_F, nlt_T, nlt_F, neq_F, neq_T, if_true, if_false, true_and, and_true, Nat.mul_zero, Nat.zero_add, Nat.add_zero, Nat.reduceAdd, Nat.reduceMul, Nat.reduceSub, li_0, li_1, li_2, li_3, li_4, li_5, li_6, li_7, li_8, li_9, li_10, li_11, li_12, li_13, li_14, li_15, li_16, li_20, li_24, li_28, li_31, li_35, li_38, li_40, li_41, li_45, li_48, li_60, li_62, li_63, li_97, li_100, li_104, li_105, li_120, li_124, li_127, li_180, li_239, li_240, li_255, li_256, li_300, li_400, li_960, li_1000000]
  · obtain ⟨u, τu, e, ku, u2, qu⟩ := un_1 q' (by rw [ks 35 (by decide), z35, pk_us]) (by rw [x30, pk_us]; decide)
    refine ⟨u, e, ⟨τu, qu, ⟨by omega, by omega, fun k hk => absurd hk (by omega)⟩, ?_, fun k hk => absurd hk (by omega), fun b hb => absurd hb (by omega)⟩, kσ.tr (ku.wk (by decide)), u2.trans v2⟩
    exact (tt.c v2 (kσ 12 (by decide)) (kσ 13 (by decide)) (kσ 14 (by decide))).c u2 (ku 12 (by decide)) (ku 13 (by decide)) (ku 14 (by decide))
/-- a letter that stands in what stands for itself stands for itself -/
theorem mt_in {F l k : Nat} {σ τ : St} (h : RF F σ τ) {g : Nat → Int32} (hg : mtG F τ g) (hk : k < F) (k1 : τ.1 15 k = nI 0) (k2 : τ.1 16 k = nI l) (k3 : τ.1 17 k = mI) : ∀ n j, j < n → j < F → g j = nI j → (lv τ j).testBit l = true → g k = nI k := by
  have hF := h.le
  intro n
  induction n with
  | zero => intro j h; omega
  | succ n ih =>
    intro j hj hjF hgj hb
    have hC := hg.2 j j hjF hjF hgj
    rcases (lv_parts h (j + 1) j (by omega) hjF).2 with ⟨l', hl', x1, x2, x3, x4⟩ | ⟨x1, x2⟩ | ⟨a, ha, x1, x2, x3⟩ | ⟨s, a, b, s3, s5, x1, ha, hb', x2, x3, x4⟩
    · rw [x4, Nat.testBit_two_pow] at hb
      have : l' = l := of_decide_eq_true hb
      subst this
      have e := h.2.2 j k hjF hk (x1.trans k1.symm) (x2.trans k2.symm) (x3.trans k3.symm)
      subst e
      exact hgj
    · rw [x2, Nat.zero_testBit] at hb; exact absurd hb (by decide)
    · rw [x3] at hb
      rcases hC with w | ⟨_, w | ⟨w, _⟩⟩
      · rw [x1, c_eq (by omega) (by omega)] at w; omega
      · rw [x1, c_eq (by omega) (by omega)] at w; omega
      · rw [x2, n_cl (by omega)] at w
        exact ih a (by omega) (by omega) w hb
    · rw [x4, Nat.testBit_or] at hb
      rcases hC with w | ⟨_, w | ⟨w, w2⟩⟩
      · rw [x1, c_eq (by omega) (by omega)] at w; omega
      · rw [x1, c_eq (by omega) (by omega)] at w; omega
      · rw [x2, n_cl (by omega)] at w
        cases ha' : (lv τ a).testBit l
        · rw [ha', Bool.false_or] at hb
          rcases w2 with w2 | w2
          · rw [x1, c_eq (by omega) (by omega)] at w2; omega
          · rw [x3, n_cl (by omega)] at w2
            exact ih b (by omega) (by omega) w2 hb
        · exact ih a (by omega) (by omega) w ha'
theorem op_inst {F T L B n O m t c l : Nat} {σ : St} (h : GI F T L B n O m σ) (htT : t < T) (hc : c < F) (e22 : σ.1 22 t = nI c) (hl : l < 8) :
    ∃ r σ', mX7_instance σ (nI t) (nI c) (nI l) = some (r, σ') ∧ SC σ σ' ∧
      ((((σ.1 15 c) >>> (nI l &&& 31)) &&& 1 = 1 ∧ ∃ p, p < F ∧ r = nI p ∧ σ.1 12 p = nI 0 ∧ σ.1 13 p = nI l) ∨ (¬ ((σ.1 15 c) >>> (nI l &&& 31)) &&& 1 = 1 ∧ r = mI)) := by
  obtain ⟨τ, q, _⟩ := h
  have i1 := q.kn hc
  obtain ⟨hf, ht, hp, hh, _⟩ := q
  have hF := hf.le
  have hT := hh.1.1
  have h6 := hh.1.2.1
  have k1 : mX6_isKnown σ (nI t) = some (nI 1) := by simp (implicitDefEqProofs := false) (disch := omega) only [mX6_isKnown, h6, ↓bnd_e, ↓ob_s, ob_s, su_1, su_2, sl_1, sl_2, ↓ck_n, ck_n, ck_Z0, ck_Z1, c_lt, c_le, c_eq, ng_1, m_ne, m_en, m_lt, m_le, m_gt, m_ge, n_add, n_mul, n_sub, n_sm, n_pm, n_0m, n_cl, Nat.reduceEqDiff, ↓reduceIte, nle_T, nle_F, nlt_T, nlt_F, neq_F, neq_T, if_true, if_false, true_and, and_true, Nat.mul_zero, Nat.zero_add, Nat.add_zero, Nat.reduceAdd, Nat.reduceMul, Nat.reduceSub, li_0, li_1, li_2, li_3, li_4, li_5, li_6, li_7, li_8, li_9, li_10, li_11, li_12, li_13, li_14, li_15, li_16, li_20, li_24, li_28, li_31, li_35, li_38, li_40, li_41, li_45, li_48, li_60, li_62, li_63, li_97, li_100, li_104, li_105, li_120, li_124, li_127, li_180, li_239, li_240, li_255, li_256, li_300, li_400, li_960, li_1000000]
  obtain ⟨s', r1, r2, r3, r4, r5, r6⟩ := says_id hf hT h6 htT hc e22
  have ec : mX6_concludes σ (nI t) (nI c) = some (nI 1, s') := by
    have e6 : mX6_concludes σ (nI t) (nI c) = (mX6_saysWithPremises σ (nI t) (nI c) mI mI).bind fun ⟨r6, s8⟩ => chkZ r6 (some (r6, s8)) := rfl
    rw [e6, r1, ob_s]
    rfl
  have e7 : mX7_instance σ (nI t) (nI c) (nI l) = (mX6_imageOfLetter s' (nI l)).bind fun r13 => some (r13, s') := by
    simp (implicitDefEqProofs := false) (disch := omega) only [mX7_instance, k1, i1, ec, ↓bnd_e, ↓ob_s, ob_s, su_1, su_2, sl_1, sl_2, ↓ck_n, ck_n, ck_Z0, ck_Z1, c_lt, c_le, c_eq, ng_1, m_ne, m_en, m_lt, m_le, m_gt, m_ge, n_add, n_mul, n_sub, n_sm, n_pm, n_0m, n_cl, Nat.reduceEqDiff, ↓reduceIte, nle_T, nle_F, nlt_T, nlt_F, neq_F, neq_T, if_true, if_false, true_and, and_true, Nat.mul_zero, Nat.zero_add, Nat.add_zero, Nat.reduceAdd, Nat.reduceMul, Nat.reduceSub, li_0, li_1, li_2, li_3, li_4, li_5, li_6, li_7, li_8, li_9, li_10, li_11, li_12, li_13, li_14, li_15, li_16, li_20, li_24, li_28, li_31, li_35, li_38, li_40, li_41, li_45, li_48, li_60, li_62, li_63, li_97, li_100, li_104, li_105, li_120, li_124, li_127, li_180, li_239, li_240, li_255, li_256, li_300, li_400, li_960, li_1000000]
  have im : mX6_imageOfLetter s' (nI l) = (mX1_find s' (nI 0) (nI l) mI).bind fun r1 => if r1 < 0 then some (-1) else if 240 ≤ r1 then some (-1) else chkI r1 240 (some (s'.1 28 r1.toNatClampNeg)) := rfl
  have h00 : s'.1 0 0 = nI F := by rw [r2 0 (by decide)]; exact hf.1.2.1
  have hE : FE3 F s' τ := fun j hj => by
    obtain ⟨x, y, z⟩ := hf.f3 j hj
    rw [r2 12 (by decide), r2 13 (by decide), r2 14 (by decide)]
    exact ⟨x, y, z⟩
  obtain ⟨r, n1, _, hr⟩ := find_r hF h00 hf.1.2.2 hE (nI 0) (nI l) mI
  obtain ⟨⟨lv1, lv2⟩, _⟩ := lv_parts hf (c + 1) c (by omega) hc
  have e15 : σ.1 15 c = nI (lv τ c) := by rw [← lv2]; exact (hf.2.1 c hc).1.2.2.2.1
  have eb : ((σ.1 15 c) >>> (nI l &&& 31)) &&& 1 = nI (lv τ c / 2 ^ l % 2) := by rw [e15]; exact bit_l lv1 hl
  have tb : (lv τ c).testBit l = decide (lv τ c / 2 ^ l % 2 = 1) := Nat.testBit_eq_decide_div_mod_eq
  have hm2 : lv τ c / 2 ^ l % 2 < 2 := Nat.mod_lt _ (by decide)
  have e1 : (((σ.1 15 c) >>> (nI l &&& 31)) &&& 1 = 1) = (lv τ c / 2 ^ l % 2 = 1) := by rw [eb]; exact c_eq (b := 1) (by omega) (by omega)
  rw [e1, e7, im, n1, ob_s]
  have hs : SC σ s' := ⟨r2.wk (by decide), r3⟩
  rcases hr with ⟨rfl, hno⟩ | ⟨k, hk, rfl, x1, x2, x3⟩
  · refine ⟨mI, s', by rw [if_pos (by decide)]; rfl, hs, Or.inr ⟨fun e => ?_, rfl⟩⟩
    obtain ⟨p, hp1, y⟩ := lv_known hf (c + 1) c (by omega) hc (by rw [tb]; exact decide_eq_true e)
    exact hno p hp1 y
  · rw [if_neg (show ¬ nI k < 0 from nI_pos (by omega)), if_neg (by rw [show (240 : Int32) = nI 240 from rfl, c_le (by omega) (by omega)]; omega), ck_n _ (by omega) (by omega), n_cl (by omega), ob_s]
    refine ⟨s'.1 28 k, s', rfl, hs, ?_⟩
    by_cases e : lv τ c / 2 ^ l % 2 = 1
    · refine Or.inl ⟨e, k, hk, ?_, ?_, ?_⟩
      · exact mt_in hf r4 hk x1 x2 x3 (c + 1) c (by omega) hc r5 (by rw [tb]; exact decide_eq_true e)
      · rw [(hf.f3 k hk).1]; exact x1
      · rw [(hf.f3 k hk).2.1]; exact x2
    · refine Or.inr ⟨e, ?_⟩
      have kb : (lv τ k).testBit l = true := by
        rcases (lv_parts hf (k + 1) k (by omega) hk).2 with ⟨l', hl', _, z2, _, z4⟩ | ⟨z1, _⟩ | ⟨a, _, z1, _⟩ | ⟨s, a, b, s3, s5, z1, _⟩
        · rw [x2, c_eq (by omega) (by omega)] at z2
          subst z2
          rw [z4, Nat.testBit_two_pow]; exact decide_eq_true rfl
        · rw [x1, c_eq (by omega) (by omega)] at z1; omega
        · rw [x1, c_eq (by omega) (by omega)] at z1; omega
        · rw [x1, c_eq (by omega) (by omega)] at z1; omega
      exact mt_out hf hc hc r4 r5 r6 (by rw [tb]; exact decide_eq_false e) hk kb
/-- the lines of all theorems -/
def sr (g : Nat → Int32) : Nat → Nat → Nat
  | _, 0 => 0
  | t, d + 1 => (g t).toNatClampNeg + sr g (t + 1) d
theorem sr_s (g : Nat → Int32) : ∀ d t, sr g t (d + 1) = sr g t d + (g (t + d)).toNatClampNeg := by
  intro d
  induction d with
  | zero => intro t; show (g t).toNatClampNeg + 0 = 0 + (g (t + 0)).toNatClampNeg; rw [Nat.add_zero t]; omega
  | succ d ih =>
    intro t
    show (g t).toNatClampNeg + sr g (t + 1) (d + 1) = ((g t).toNatClampNeg + sr g (t + 1) d) + (g (t + (d + 1))).toNatClampNeg
    rw [ih (t + 1), show t + 1 + d = t + (d + 1) by omega]; omega
theorem sr_c {g g' : Nat → Int32} : ∀ d t, (∀ i, t ≤ i → i < t + d → g' i = g i) → sr g' t d = sr g t d := by
  intro d
  induction d with
  | zero => intro t _; rfl
  | succ d ih =>
    intro t h
    show (g' t).toNatClampNeg + sr g' (t + 1) d = (g t).toNatClampNeg + sr g (t + 1) d
    rw [h t (by omega) (by omega), ih (t + 1) (fun i h1 h2 => h i (by omega) (by omega))]
def fpG (r : UInt64) : Prop := ¬ (Op.cmpValue (FP.dcmp r FP.dconst0) .l ≤ 0) ∧ ¬ (0 < Op.cmpValue (FP.dcmp r FP.dconst1) .g)
theorem op_thrift {F T L B n O m : Nat} {σ : St} (h : GI F T L B n O m σ) (hs : sr (σ.1 25) 0 T ≤ 30) (hn : ∀ t, t < T → ∃ b, 1 ≤ b ∧ b < 61 ∧ σ.1 26 t = nI b) : ∃ r, mX7_thrift σ = some r ∧ fpG r := by
  obtain ⟨τ, q, _⟩ := h
  obtain ⟨_, _, _, hh, _⟩ := q
  have hT := hh.1.1
  have h6 := hh.1.2.1
  have go : ∀ d t n p a, t + d = T → d < n → t ≤ p → p ≤ a → (t = 0 → a = 0) → a + sr (σ.1 25) t d ≤ 30 → ∃ r, mX6_neededShare_6 n σ (nI p) (nI a) (nI t) = some r ∧ fpG r := by
    intro d
    induction d with
    | zero =>
      intro t n p a ht hn h1 h2 h3 h4
      obtain ⟨n, rfl⟩ : ∃ m, n = m + 1 := ⟨n - 1, by omega⟩
      have e : t = T := by omega
      subst e
      have h4' : a ≤ 30 := h4
      by_cases h0 : t = 0
      · have ha := h3 h0
        subst ha
        subst h0
        refine ⟨FP.dconst1, ?_, fp_2⟩
        simp (implicitDefEqProofs := false) (disch := omega) only [fx_s, bX6_neededShare_6, mX6_neededShare_44, h6, ↓bnd_e, ↓ob_s, ob_s, su_1, su_2, sl_1, sl_2, ↓ck_n, ck_n, ck_Z0, ck_Z1, c_lt, c_le, c_eq, ng_1, m_ne, m_en, m_lt, m_le, m_gt, m_ge, n_add, n_mul, n_sub, n_sm, n_pm, n_0m, n_cl, Nat.reduceEqDiff, ↓reduceIte, nle_T, nle_F, nlt_T, nlt_F, neq_F, neq_T, if_true, if_false, true_and, and_true, Nat.mul_zero, Nat.zero_add, Nat.add_zero, Nat.reduceAdd, Nat.reduceMul, Nat.reduceSub, li_0, li_1, li_2, li_3, li_4, li_5, li_6, li_7, li_8, li_9, li_10, li_11, li_12, li_13, li_14, li_15, li_16, li_20, li_24, li_28, li_31, li_35, li_38, li_40, li_41, li_45, li_48, li_60, li_62, li_63, li_97, li_100, li_104, li_105, li_120, li_124, li_127, li_180, li_239, li_240, li_255, li_256, li_300, li_400, li_960, li_1000000]
      · have ck := fun (x : Option UInt64) => ck_N x p a (by omega) (by omega)
        refine ⟨FP.ddiv (FP.i2d (nI p)) (FP.i2d (nI a)), ?_, fp_1 a (by omega) p (by omega) ⟨by omega, h2⟩⟩
        simp (implicitDefEqProofs := false) (disch := omega) only [fx_s, bX6_neededShare_6, mX6_neededShare_44, h6, ck, ↓bnd_e, ↓ob_s, ob_s, su_1, su_2, sl_1, sl_2, ↓ck_n, ck_n, ck_Z0, ck_Z1, c_lt, c_le, c_eq, ng_1, m_ne, m_en, m_lt, m_le, m_gt, m_ge, n_add, n_mul, n_sub, n_sm, n_pm, n_0m, n_cl, Nat.reduceEqDiff, ↓reduceIte, nle_T, nle_F, nlt_T, nlt_F, neq_F, neq_T, if_true, if_false, true_and, and_true, Nat.mul_zero, Nat.zero_add, Nat.add_zero, Nat.reduceAdd, Nat.reduceMul, Nat.reduceSub, li_0, li_1, li_2, li_3, li_4, li_5, li_6, li_7, li_8, li_9, li_10, li_11, li_12, li_13, li_14, li_15, li_16, li_20, li_24, li_28, li_31, li_35, li_38, li_40, li_41, li_45, li_48, li_60, li_62, li_63, li_97, li_100, li_104, li_105, li_120, li_124, li_127, li_180, li_239, li_240, li_255, li_256, li_300, li_400, li_960, li_1000000]
    | succ d ih =>
      intro t n p a ht hn' h1 h2 h3 h4
      obtain ⟨n, rfl⟩ : ∃ m, n = m + 1 := ⟨n - 1, by omega⟩
      obtain ⟨_, e25, e26, _⟩ := hh.2.1
      obtain ⟨_, _, _, _, x, y, x1, x2, x3, x4, x5⟩ := hh.2.2 t (by omega)
      have s25 : σ.1 25 t = nI x := by rw [e25]; exact x4
      have s26 : σ.1 26 t = nI y := by rw [e26]; exact x5
      obtain ⟨b, b1, b2, b3⟩ := hn t (by omega)
      rw [s26, c_eq (by omega) (by omega)] at b3
      have h4' : a + ((σ.1 25 t).toNatClampNeg + sr (σ.1 25) (t + 1) d) ≤ 30 := h4
      rw [s25, n_cl (by omega)] at h4'
      obtain ⟨r, r1, r2⟩ := ih (t + 1) n (p + y) (a + x) (by omega) (by omega) (by omega) (by omega) (fun h => by omega) (by omega)
      refine ⟨r, ?_, r2⟩
      rw [← r1]
      simp (implicitDefEqProofs := false) (disch := omega) only [fx_s, bX6_neededShare_6, h6, s25, s26, ↓bnd_e, ↓ob_s, ob_s, su_1, su_2, sl_1, sl_2, ↓ck_n, ck_n, ck_Z0, ck_Z1, c_lt, c_le, c_eq, ng_1, m_ne, m_en, m_lt, m_le, m_gt, m_ge, n_add, n_mul, n_sub, n_sm, n_pm, n_0m, n_cl, Nat.reduceEqDiff, ↓reduceIte, nle_T, nle_F, nlt_T, nlt_F, neq_F, neq_T, if_true, if_false, true_and, and_true, Nat.mul_zero, Nat.zero_add, Nat.add_zero, Nat.reduceAdd, Nat.reduceMul, Nat.reduceSub, li_0, li_1, li_2, li_3, li_4, li_5, li_6, li_7, li_8, li_9, li_10, li_11, li_12, li_13, li_14, li_15, li_16, li_20, li_24, li_28, li_31, li_35, li_38, li_40, li_41, li_45, li_48, li_60, li_62, li_63, li_97, li_100, li_104, li_105, li_120, li_124, li_127, li_180, li_239, li_240, li_255, li_256, li_300, li_400, li_960, li_1000000]
  obtain ⟨r, r1, r2⟩ := go T 0 NF 0 0 (by omega) (by show T < 1000; omega) (by omega) (by omega) (fun _ => rfl) (by omega)
  refine ⟨r, ?_, r2⟩
  simp only [mX7_thrift, mX6_neededShare, li_0, r1, ob_s]
