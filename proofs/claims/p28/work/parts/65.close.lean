/-- the last line of a box -/
theorem last_of {g24 : Nat → Int32} {v : Int32} : ∀ L, (∃ k, k < L ∧ g24 k = v) → ∃ k, k < L ∧ g24 k = v ∧ ∀ j, k < j → j < L → g24 j ≠ v := by
  intro L
  induction L with
  | zero => intro ⟨k, hk, _⟩; omega
  | succ L ih =>
    intro ⟨k, hk, e⟩
    by_cases h : g24 L = v
    · exact ⟨L, by omega, h, fun j h1 h2 => by omega⟩
    · have : k ≠ L := fun e2 => h (by rw [← e2]; exact e)
      obtain ⟨k', a, b, c⟩ := ih ⟨k, by omega, e⟩
      refine ⟨k', by omega, b, fun j h1 h2 => ?_⟩
      by_cases e3 : j = L
      · rw [e3]; exact h
      · exact c j h1 (by omega)
theorem x3_last {σ : St} {L b k0 : Nat} (hL : L ≤ 60) (h0 : σ.1 33 k0 = nI b) (hmax : ∀ j, k0 < j → j < L → σ.1 33 j ≠ nI b) :
    ∀ k n, k0 < k → k ≤ L → k < n → mX3_latestLineOf_12 n σ (nI b) (ixD k) = some (nI k0) := by
  intro k
  induction k with
  | zero => intro n h; omega
  | succ k ih =>
    intro n h1 h2 hn
    obtain ⟨n, rfl⟩ : ∃ m, n = m + 1 := ⟨n - 1, by omega⟩
    rw [ixD_s]
    show bX3_latestLineOf_12 (mX3_latestLineOf_12 n) σ (nI b) (nI k) = _
    unfold bX3_latestLineOf_12
    rw [if_neg (show ¬ nI k < 0 from nI_pos (by omega)), ck_n _ (by omega) (by omega), n_cl (by omega)]
    by_cases e : k = k0
    · subst e; rw [if_pos h0]
    · rw [if_neg (hmax k (by omega) (by omega)), bnd_e, ixD_m k (by omega)]
      exact ih n (by omega) (by omega) (by omega)
theorem x8_close_l {τ : St} {L b k0 : Nat} (hL : L ≤ 60) (hb : b < 60) (hk0 : k0 < L) (h6 : τ.1 6 0 = nI L) (hmax : ∀ j, k0 < j → j < L → τ.1 24 j ≠ nI b) (h0 : τ.1 24 k0 = nI b) :
    ∀ d k n (s : St), k + d = L → d < n → KE [26] τ s → (∀ j, j ≠ b → s.1 26 j = τ.1 26 j) → (k0 < k → s.1 26 b = nI k0) →
      ∃ s', mX8_close_26 n s (nI b) (nI k) = mX8_close_57 s' (nI b) ∧ KE [26] τ s' ∧ s'.1 26 = upd (τ.1 26) b (nI k0) := by
  intro d
  induction d with
  | zero =>
    intro k n s hk hn hK hj hb0
    obtain ⟨n, rfl⟩ : ∃ m, n = m + 1 := ⟨n - 1, by omega⟩
    refine ⟨s, ?_, hK, funext fun j => ?_⟩
    · have s6 : s.1 6 0 = nI L := by rw [hK 6 (by decide)]; exact h6
      simp (implicitDefEqProofs := false) (disch := omega) only [fx_s, bX8_close_26, s6, ↓bnd_e, ↓ob_s, ob_s, su_1, su_2, sl_1, sl_2, ↓ck_n, ck_n, ck_Z0, ck_Z1, c_lt, c_le, c_eq, ng_1, m_ne, m_en, m_lt, m_le, m_gt, m_ge, n_add, n_mul, n_sub, n_sm, n_pm, n_0m, n_cl, Nat.reduceEqDiff, ↓reduceIte, nle_T, nle_F, nlt_T, nlt_F, neq_F, neq_T, if_true, if_false, true_and, and_true, Nat.mul_zero, Nat.zero_add, Nat.add_zero, Nat.reduceAdd, Nat.reduceMul, Nat.reduceSub, li_0, li_1, li_2, li_3, li_4, li_5, li_6, li_7, li_8, li_9, li_10, li_11, li_12, li_13, li_14, li_15, li_16, li_20, li_24, li_28, li_31, li_35, li_38, li_40, li_41, li_45, li_48, li_60, li_62, li_63, li_97, li_100, li_104, li_105, li_120, li_124, li_127, li_180, li_239, li_240, li_255, li_256, li_300, li_400, li_960, li_1000000]
    · rw [up_1]
      by_cases e : j = b
      · rw [if_pos e, e]; exact hb0 (by omega)
      · rw [if_neg e]; exact hj j e
  | succ d ih =>
    intro k n s hk hn hK hj hb0
    obtain ⟨n, rfl⟩ : ∃ m, n = m + 1 := ⟨n - 1, by omega⟩
    have s6 : s.1 6 0 = nI L := by rw [hK 6 (by decide)]; exact h6
    have s24 : s.1 24 = τ.1 24 := hK 24 (by decide)
    by_cases e : τ.1 24 k = nI b
    · have hkk : k ≤ k0 := by
        by_cases h : k0 < k
        · exact (hmax k h (by omega) e).elim
        · omega
      obtain ⟨s', a1, a2, a3⟩ := ih (k + 1) n (su s 26 (upd (s.1 26) b (nI k))) (by omega) (by omega) (hK.s (by decide)) (fun j hj2 => by rw [su_1, if_pos rfl, pk_un hj2]; exact hj j hj2) (fun h => by
        rw [su_1, if_pos rfl, pk_us]
        have : k = k0 := by omega
        rw [this])
      refine ⟨s', ?_, a2, a3⟩
      rw [← a1]
      have e2 : s.1 24 k = nI b := by rw [s24]; exact e
      simp (implicitDefEqProofs := false) (disch := omega) only [fx_s, bX8_close_26, mX8_close_51, s6, e2, ↓bnd_e, ↓ob_s, ob_s, su_1, su_2, sl_1, sl_2, ↓ck_n, ck_n, ck_Z0, ck_Z1, c_lt, c_le, c_eq, ng_1, m_ne, m_en, m_lt, m_le, m_gt, m_ge, n_add, n_mul, n_sub, n_sm, n_pm, n_0m, n_cl, Nat.reduceEqDiff, ↓reduceIte, nle_T, nle_F, nlt_T, nlt_F, neq_F, neq_T, if_true, if_false, true_and, and_true, Nat.mul_zero, Nat.zero_add, Nat.add_zero, Nat.reduceAdd, Nat.reduceMul, Nat.reduceSub, li_0, li_1, li_2, li_3, li_4, li_5, li_6, li_7, li_8, li_9, li_10, li_11, li_12, li_13, li_14, li_15, li_16, li_20, li_24, li_28, li_31, li_35, li_38, li_40, li_41, li_45, li_48, li_60, li_62, li_63, li_97, li_100, li_104, li_105, li_120, li_124, li_127, li_180, li_239, li_240, li_255, li_256, li_300, li_400, li_960, li_1000000]
    · have hkk : k ≠ k0 := fun e3 => e (by rw [e3]; exact h0)
      obtain ⟨s', a1, a2, a3⟩ := ih (k + 1) n s (by omega) (by omega) hK hj (fun h => hb0 (by omega))
      refine ⟨s', ?_, a2, a3⟩
      rw [← a1]
      have e2 : ¬ s.1 24 k = nI b := by rw [s24]; exact e
      simp (implicitDefEqProofs := false) (disch := omega) only [fx_s, bX8_close_26, mX8_close_51, s6, e2, ↓bnd_e, ↓ob_s, ob_s, su_1, su_2, sl_1, sl_2, ↓ck_n, ck_n, ck_Z0, ck_Z1, c_lt, c_le, c_eq, ng_1, m_ne, m_en, m_lt, m_le, m_gt, m_ge, n_add, n_mul, n_sub, n_sm, n_pm, n_0m, n_cl, Nat.reduceEqDiff, ↓reduceIte, nle_T, nle_F, nlt_T, nlt_F, neq_F, neq_T, if_true, if_false, true_and, and_true, Nat.mul_zero, Nat.zero_add, Nat.add_zero, Nat.reduceAdd, Nat.reduceMul, Nat.reduceSub, li_0, li_1, li_2, li_3, li_4, li_5, li_6, li_7, li_8, li_9, li_10, li_11, li_12, li_13, li_14, li_15, li_16, li_20, li_24, li_28, li_31, li_35, li_38, li_40, li_41, li_45, li_48, li_60, li_62, li_63, li_97, li_100, li_104, li_105, li_120, li_124, li_127, li_180, li_239, li_240, li_255, li_256, li_300, li_400, li_960, li_1000000]
theorem dd_v : ∀ b, b < 60 → ¬ (nI 0 ≤ mI - nI b) ∧ mI - (mI - nI b) = nI b := by decide +kernel
theorem dd_n {b k : Nat} (hb : b < 60) (hk : k < 2147483648) : nI k ≠ mI - nI b := fun e => (dd_v b hb).1 (by rw [← e]; exact nI_pos' hk)
theorem P_close {σ τ : St} (h : RR σ τ) : (∃ (r : Int32) (σ' : St) (τ' : St), mX7_close σ = some (r, σ') ∧ mX8_close τ = some (r, τ') ∧ τ'.1 0 0 = 0 ∧ RR σ' τ') ∨ (∃ (v : Int32) (σ' : St) (τ' : St), tX7_close σ = some (1, σ') ∧ mX8_close τ = some (v, τ') ∧ τ'.1 0 0 = 1 ∧ RR σ' τ') := by
  have hR2 := fun v w => RR_thr (RR_thr h v) w
  obtain ⟨F, T, hf, ht, hp, hh, L, B, n, O, ⟨a8, a6, a1, a2, a7, a9, a3, a4⟩, b1, c1, d1, hH⟩ := h
  have hI := hH.inv
  obtain ⟨hL60, hBL, hO6⟩ := hI.1
  have hnn := Hist.n _ _ _ _ _ _ hH
  obtain ⟨d, dd1, dd2⟩ := hI.2.2.2.1
  rcases dd2 with ⟨i1, rfl⟩ | ⟨b, hb, i2, hd, he⟩
  · refine Or.inr ⟨nI 0, σ, su (su τ 0 (fun _ => nI 0)) 0 (fun _ => nI 1), ?_, ?_, rfl, hR2 _ _⟩
    · simp (implicitDefEqProofs := false) (disch := omega) only [tX7_close, mX3_openCount, mX0_open, a3, ↓bnd_e, ↓ob_s, ob_s, su_1, su_2, sl_1, sl_2, ↓ck_n, ck_n, ck_Z0, ck_Z1, c_lt, c_le, c_eq, ng_1, m_ne, m_en, m_lt, m_le, m_gt, m_ge, n_add, n_mul, n_sub, n_sm, n_pm, n_0m, n_cl, Nat.reduceEqDiff, ↓reduceIte, nle_T, nle_F, nlt_T, nlt_F, neq_F, neq_T, if_true, if_false, true_and, and_true, Nat.mul_zero, Nat.zero_add, Nat.add_zero, Nat.reduceAdd, Nat.reduceMul, Nat.reduceSub, li_0, li_1, li_2, li_3, li_4, li_5, li_6, li_7, li_8, li_9, li_10, li_11, li_12, li_13, li_14, li_15, li_16, li_20, li_24, li_28, li_31, li_35, li_38, li_40, li_41, li_45, li_48, li_60, li_62, li_63, li_97, li_100, li_104, li_105, li_120, li_124, li_127, li_180, li_239, li_240, li_255, li_256, li_300, li_400, li_960, li_1000000]
    · simp (implicitDefEqProofs := false) (disch := omega) only [mX8_close, i1, mX8_no, ↓bnd_e, ↓ob_s, ob_s, su_1, su_2, sl_1, sl_2, ↓ck_n, ck_n, ck_Z0, ck_Z1, c_lt, c_le, c_eq, ng_1, m_ne, m_en, m_lt, m_le, m_gt, m_ge, n_add, n_mul, n_sub, n_sm, n_pm, n_0m, n_cl, Nat.reduceEqDiff, ↓reduceIte, nle_T, nle_F, nlt_T, nlt_F, neq_F, neq_T, if_true, if_false, true_and, and_true, Nat.mul_zero, Nat.zero_add, Nat.add_zero, Nat.reduceAdd, Nat.reduceMul, Nat.reduceSub, li_0, li_1, li_2, li_3, li_4, li_5, li_6, li_7, li_8, li_9, li_10, li_11, li_12, li_13, li_14, li_15, li_16, li_20, li_24, li_28, li_31, li_35, li_38, li_40, li_41, li_45, li_48, li_60, li_62, li_63, li_97, li_100, li_104, li_105, li_120, li_124, li_127, li_180, li_239, li_240, li_255, li_256, li_300, li_400, li_960, li_1000000]
  · have hO1 : 1 ≤ O := by have := (dd1 b hb).1; omega
    obtain ⟨O, rfl⟩ : ∃ q, O = q + 1 := ⟨O - 1, by omega⟩
    obtain ⟨_, j, j1, j2, j3⟩ := hI.2.2.2.2.1 b hb
    obtain ⟨k0, q1, q2, q3⟩ := last_of (g24 := τ.1 24) (v := nI b) L ⟨j, j1, j3⟩
    obtain ⟨e29, e30, e31, e33, e36, e37, e38⟩ := b1
    have cl : mX3_latestLineOf σ (nI b) = some (nI k0) := by
      have x := x3_last (σ := σ) (L := L) hL60 (by rw [e33]; exact q2) (by rw [e33]; exact q3) L NF q1 (Nat.le_refl _) (by show L < 1000; omega)
      unfold mX3_latestLineOf
      rw [a8, bnd_e]
      have e : (if nI L < (60 : Int32) then nI L else 60) - 1 = ixD L := by
        rw [← ixD_1, show (60 : Int32) = nI 60 from rfl]
        by_cases h : L < 60
        · rw [if_pos (show nI L < nI 60 by rw [c_lt (by omega) (by omega)]; exact h)]
        · have : L = 60 := by omega
          rw [this]; decide
      rw [e]; exact x
    have c11 : σ.1 11 0 = nI b := a4.trans i2
    obtain ⟨s', m1, m2, m3⟩ := x8_close_l (τ := su τ 0 (fun _ => nI 0)) hL60 (by omega : b < 60) q1 a6 q3 q2 L 0 NF _ (by omega) (by show L < 1000; omega) KE.rf (fun _ _ => rfl) (fun h => by omega)
    have w9 : s'.1 9 0 = nI n := by rw [m2 9 (by decide)]; exact a9
    have w27 : s'.1 27 = τ.1 27 := m2 27 (by decide)
    have w28 : s'.1 28 = τ.1 28 := m2 28 (by decide)
    obtain ⟨σ', es⟩ : ∃ v, v = su (su (su (su (su σ 37 (upd (σ.1 37) b (nI k0))) 11 (fun _ => σ.1 38 b)) 10 (fun _ => nI O)) 35 (upd (σ.1 35) n (nI b))) 7 (fun _ => nI (n + 1)) := ⟨_, rfl⟩
    obtain ⟨τ', et⟩ : ∃ v, v = su (su (su s' 28 (upd (τ.1 28) n (mI - nI b))) 9 (fun _ => nI (n + 1))) 8 (fun _ => τ.1 27 b) := ⟨_, rfl⟩
    have kσ : KE [37, 11, 10, 35, 7] σ σ' := by rw [es]; exact ((((KE.rf.s (by decide)).s (by decide)).s (by decide)).s (by decide)).s (by decide)
    have ks' : KE [0, 26, 28, 9, 8] τ s' := (KE.rf.s (l := [0, 26, 28, 9, 8]) (k := 0) (f := fun _ => nI 0) (by decide)).tr (m2.wk (by decide))
    have kτ : KE [0, 26, 28, 9, 8] τ τ' := by rw [et]; exact ((ks'.s (by decide)).s (by decide)).s (by decide)
    have t26 : τ'.1 26 = upd (τ.1 26) b (nI k0) := by rw [et]; exact m3
    have t28 : τ'.1 28 = upd (τ.1 28) n (mI - nI b) := by rw [et]; rfl
    have t9 : τ'.1 9 0 = nI (n + 1) := by rw [et]; rfl
    have t8 : τ'.1 8 0 = τ.1 27 b := by rw [et]; rfl
    have t0 : τ'.1 0 0 = nI 0 := by rw [et]; show s'.1 0 0 = _; rw [m2 0 (by decide)]; rfl
    have s37 : σ'.1 37 = upd (σ.1 37) b (nI k0) := by rw [es]; rfl
    have s35 : σ'.1 35 = upd (σ.1 35) n (nI b) := by rw [es]; rfl
    have s11 : σ'.1 11 0 = σ.1 38 b := by rw [es]; rfl
    have s10 : σ'.1 10 0 = nI O := by rw [es]; rfl
    have s7 : σ'.1 7 0 = nI (n + 1) := by rw [es]; rfl
    have s2 : σ'.2 = σ.2 := by rw [es]; rfl
    have hg : GA T n L B τ.1 τ'.1 := ⟨fun k hk => ⟨by rw [kτ 21 (by decide)], by rw [kτ 22 (by decide)], by rw [kτ 24 (by decide)], fun w hw => by rw [kτ 23 (by decide)]⟩, fun b hb => ⟨by rw [kτ 25 (by decide)], by rw [kτ 27 (by decide)]⟩, fun i hi => by rw [t28, pk_un (by omega)], fun t ht => by rw [kτ 30 (by decide)]⟩
    rw [i2] at hH
    have hS := hH.shut hh.1.1 hb q1 hg t26 (by rw [t28, pk_us])
    refine Or.inl ⟨nI b, σ', τ', ?_, ?_, t0, F, T, hf.c (.k kσ (by decide)) s2 (.k kτ (by decide)), ht.c (.k kσ (by decide)) (.k kτ (by decide)), hp.c (.k kσ (by decide)) (.k kτ (by decide)), hh.c (Nat.le_refl _) (.k kσ (by decide)) (.k kτ (by decide)), L, B, n + 1, O, ⟨?_, ?_, ?_, ?_, s7, t9, s10, ?_⟩, ⟨?_, ?_, ?_, ?_, ?_, ?_, ?_⟩, fun i hi => ?_, fun k hk r hr h22 w hw => ?_, ?_⟩
    · rw [es]
      simp (implicitDefEqProofs := false) (disch := omega) only [mX7_close, mX3_openCount, mX0_open, mX3_shutBox, mX0_innermost, mX0_shutAt, mX3_noteDeed, a3, c11, cl, a1, a7, Nat.add_sub_cancel, ↓bnd_e, ↓ob_s, ob_s, su_1, su_2, sl_1, sl_2, ↓ck_n, ck_n, ck_Z0, ck_Z1, c_lt, c_le, c_eq, ng_1, m_ne, m_en, m_lt, m_le, m_gt, m_ge, n_add, n_mul, n_sub, n_sm, n_pm, n_0m, n_cl, Nat.reduceEqDiff, ↓reduceIte, nle_T, nle_F, nlt_T, nlt_F, neq_F, neq_T, if_true, if_false, true_and, and_true, Nat.mul_zero, Nat.zero_add, Nat.add_zero, Nat.reduceAdd, Nat.reduceMul, Nat.reduceSub, li_0, li_1, li_2, li_3, li_4, li_5, li_6, li_7, li_8, li_9, li_10, li_11, li_12, li_13, li_14, li_15, li_16, li_20, li_24, li_28, li_31, li_35, li_38, li_40, li_41, li_45, li_48, li_60, li_62, li_63, li_97, li_100, li_104, li_105, li_120, li_124, li_127, li_180, li_239, li_240, li_255, li_256, li_300, li_400, li_960, li_1000000]
    · rw [et]
      simp (implicitDefEqProofs := false) (disch := omega) only [mX8_close, i2, m1, mX8_close_57, w9, w27, w28, ↓bnd_e, ↓ob_s, ob_s, su_1, su_2, sl_1, sl_2, ↓ck_n, ck_n, ck_Z0, ck_Z1, c_lt, c_le, c_eq, ng_1, m_ne, m_en, m_lt, m_le, m_gt, m_ge, n_add, n_mul, n_sub, n_sm, n_pm, n_0m, n_cl, Nat.reduceEqDiff, ↓reduceIte, nle_T, nle_F, nlt_T, nlt_F, neq_F, neq_T, if_true, if_false, true_and, and_true, Nat.mul_zero, Nat.zero_add, Nat.add_zero, Nat.reduceAdd, Nat.reduceMul, Nat.reduceSub, li_0, li_1, li_2, li_3, li_4, li_5, li_6, li_7, li_8, li_9, li_10, li_11, li_12, li_13, li_14, li_15, li_16, li_20, li_24, li_28, li_31, li_35, li_38, li_40, li_41, li_45, li_48, li_60, li_62, li_63, li_97, li_100, li_104, li_105, li_120, li_124, li_127, li_180, li_239, li_240, li_255, li_256, li_300, li_400, li_960, li_1000000]
    · rw [kσ 8 (by decide)]; exact a8
    · rw [kτ 6 (by decide)]; exact a6
    · rw [kσ 9 (by decide)]; exact a1
    · rw [kτ 7 (by decide)]; exact a2
    · rw [s11, t8, e38]
    · rw [kσ 29 (by decide), kτ 21 (by decide), e29]
    · rw [kσ 30 (by decide), kτ 22 (by decide), e30]
    · rw [kσ 31 (by decide), kτ 23 (by decide), e31]
    · rw [kσ 33 (by decide), kτ 24 (by decide), e33]
    · rw [kσ 36 (by decide), kτ 25 (by decide), e36]
    · rw [s37, t26, e37]
    · rw [kσ 38 (by decide), kτ 27 (by decide), e38]
    · rw [s35, t28, up_1, up_1]
      by_cases e : i = n
      · rw [if_pos e, if_pos e]; exact Or.inr ⟨b, by omega, rfl, rfl⟩
      · rw [if_neg e, if_neg e]; exact c1 i (by omega)
    · rw [kτ 22 (by decide)] at h22
      rw [kσ 32 (by decide), kτ 23 (by decide), d1 k hk r hr h22 w hw]
      unfold kdN
      rw [kτ 30 (by decide)]
    · have e27 : τ'.1 8 0 = τ'.1 27 b := by rw [t8, kτ 27 (by decide)]
      rw [e27]; exact hS
theorem RV_un {F T L B n O : Nat} {σ τ σ' τ' : St} {lσ lτ : List Nat} (hT : T ≤ 16) (kσ : KE lσ σ σ') (kτ : KE lτ τ τ') (hσ : ∀ c, c ∈ [29, 30, 31, 32, 33, 35, 36, 38] → c ∉ lσ) (hτ : ∀ c, c ∈ [21, 22, 23, 24, 25, 27, 28, 30] → c ∉ lτ)
    (b1 : σ.1 29 = τ.1 21 ∧ σ.1 30 = τ.1 22 ∧ σ.1 31 = τ.1 23 ∧ σ.1 33 = τ.1 24 ∧ σ.1 36 = τ.1 25 ∧ σ.1 37 = τ.1 26 ∧ σ.1 38 = τ.1 27)
    (c1 : ∀ i, i < n → DR (σ.1 35 i) (τ.1 28 i))
    (d1 : ∀ k, k < L → ∀ r, r ≤ 15 → τ.1 22 k = nI r → ∀ w, w < 3 → σ.1 32 (3 * k + w) = nI (kdN τ.1 r (τ.1 23 (3 * k)).toNatClampNeg w))
    (h8 : σ'.1 8 0 = nI L ∧ τ'.1 6 0 = nI L ∧ σ'.1 9 0 = nI B ∧ τ'.1 7 0 = nI B ∧ σ'.1 7 0 = nI n ∧ τ'.1 9 0 = nI n ∧ σ'.1 10 0 = nI O ∧ σ'.1 11 0 = τ'.1 8 0)
    (h37 : σ'.1 37 = τ'.1 26) (hH : Hist F T τ.1 n L B O (τ'.1 8 0) (τ'.1 26)) : RV F T σ' τ' := by
  obtain ⟨e29, e30, e31, e33, e36, e37, e38⟩ := b1
  refine ⟨L, B, n, O, h8, ⟨?_, ?_, ?_, ?_, ?_, h37, ?_⟩, fun i hi => ?_, fun k hk r hr h22 w hw => ?_, ?_⟩
  · rw [kσ 29 (hσ _ (by decide)), kτ 21 (hτ _ (by decide)), e29]
  · rw [kσ 30 (hσ _ (by decide)), kτ 22 (hτ _ (by decide)), e30]
  · rw [kσ 31 (hσ _ (by decide)), kτ 23 (hτ _ (by decide)), e31]
  · rw [kσ 33 (hσ _ (by decide)), kτ 24 (hτ _ (by decide)), e33]
  · rw [kσ 36 (hσ _ (by decide)), kτ 25 (hτ _ (by decide)), e36]
  · rw [kσ 38 (hσ _ (by decide)), kτ 27 (hτ _ (by decide)), e38]
  · rw [kσ 35 (hσ _ (by decide)), kτ 28 (hτ _ (by decide))]; exact c1 i hi
  · rw [kτ 22 (hτ _ (by decide))] at h22
    rw [kσ 32 (hσ _ (by decide)), kτ 23 (hτ _ (by decide)), d1 k hk r hr h22 w hw]
    unfold kdN
    rw [kτ 30 (hτ _ (by decide))]
  · exact Hist.c hT (Nat.le_refl _) _ _ _ _ _ _ _ hH ⟨fun k hk => ⟨by rw [kτ 21 (hτ _ (by decide))], by rw [kτ 22 (hτ _ (by decide))], by rw [kτ 24 (hτ _ (by decide))], fun w hw => by rw [kτ 23 (hτ _ (by decide))]⟩, fun b hb => ⟨by rw [kτ 25 (hτ _ (by decide))], by rw [kτ 27 (hτ _ (by decide))]⟩, fun i hi => by rw [kτ 28 (hτ _ (by decide))], fun t ht => by rw [kτ 30 (hτ _ (by decide))]⟩ (fun _ _ => rfl)
theorem P_undo {σ τ : St} (h : RR σ τ) : (∃ (r : Int32) (σ' : St) (τ' : St), mX7_undo σ = some (r, σ') ∧ mX8_undo τ = some (r, τ') ∧ τ'.1 0 0 = 0 ∧ RR σ' τ') ∨ (∃ (v : Int32) (σ' : St) (τ' : St), tX7_undo σ = some (1, σ') ∧ mX8_undo τ = some (v, τ') ∧ τ'.1 0 0 = 1 ∧ RR σ' τ') := by
  have hR2 := fun v w => RR_thr (RR_thr h v) w
  obtain ⟨F, T, hf, ht, hp, hh, L, B, n, O, ⟨a8, a6, a1, a2, a7, a9, a3, a4⟩, b1, c1, d1, hH⟩ := h
  have hnn := Hist.n _ _ _ _ _ _ hH
  have hI := hH.inv
  obtain ⟨hL60, hBL, hO6⟩ := hI.1
  cases n with
  | zero =>
    refine Or.inr ⟨nI 0, σ, su (su τ 0 (fun _ => nI 0)) 0 (fun _ => nI 1), ?_, ?_, rfl, hR2 _ _⟩
    · simp (implicitDefEqProofs := false) (disch := omega) only [tX7_undo, mX3_wasBegun, a7, ↓bnd_e, ↓ob_s, ob_s, su_1, su_2, sl_1, sl_2, ↓ck_n, ck_n, ck_Z0, ck_Z1, c_lt, c_le, c_eq, ng_1, m_ne, m_en, m_lt, m_le, m_gt, m_ge, n_add, n_mul, n_sub, n_sm, n_pm, n_0m, n_cl, Nat.reduceEqDiff, ↓reduceIte, nle_T, nle_F, nlt_T, nlt_F, neq_F, neq_T, if_true, if_false, true_and, and_true, Nat.mul_zero, Nat.zero_add, Nat.add_zero, Nat.reduceAdd, Nat.reduceMul, Nat.reduceSub, li_0, li_1, li_2, li_3, li_4, li_5, li_6, li_7, li_8, li_9, li_10, li_11, li_12, li_13, li_14, li_15, li_16, li_20, li_24, li_28, li_31, li_35, li_38, li_40, li_41, li_45, li_48, li_60, li_62, li_63, li_97, li_100, li_104, li_105, li_120, li_124, li_127, li_180, li_239, li_240, li_255, li_256, li_300, li_400, li_960, li_1000000]
    · simp (implicitDefEqProofs := false) (disch := omega) only [mX8_undo, a9, mX8_no, ↓bnd_e, ↓ob_s, ob_s, su_1, su_2, sl_1, sl_2, ↓ck_n, ck_n, ck_Z0, ck_Z1, c_lt, c_le, c_eq, ng_1, m_ne, m_en, m_lt, m_le, m_gt, m_ge, n_add, n_mul, n_sub, n_sm, n_pm, n_0m, n_cl, Nat.reduceEqDiff, ↓reduceIte, nle_T, nle_F, nlt_T, nlt_F, neq_F, neq_T, if_true, if_false, true_and, and_true, Nat.mul_zero, Nat.zero_add, Nat.add_zero, Nat.reduceAdd, Nat.reduceMul, Nat.reduceSub, li_0, li_1, li_2, li_3, li_4, li_5, li_6, li_7, li_8, li_9, li_10, li_11, li_12, li_13, li_14, li_15, li_16, li_20, li_24, li_28, li_31, li_35, li_38, li_40, li_41, li_45, li_48, li_60, li_62, li_63, li_97, li_100, li_104, li_105, li_120, li_124, li_127, li_180, li_239, li_240, li_255, li_256, li_300, li_400, li_960, li_1000000]
  | succ n =>
    have hd := c1 n (by omega)
    have c1' : ∀ i, i < n → DR (σ.1 35 i) (τ.1 28 i) := fun i hi => c1 i (by omega)
    obtain ⟨_, hc⟩ := hH
    rcases hc with ⟨L', rfl, h1, h2, h3⟩ | ⟨L', B', O', rfl, rfl, rfl, h1, h2, h3, h4⟩ | ⟨b, h1, h2, h3⟩
    · have e35 : σ.1 35 n = mI := by
        rcases hd with ⟨e, _⟩ | ⟨b, hb, _, e⟩
        · exact e
        · rw [h1] at e; exact (dd_n hb (by omega) e).elim
      have e30 : ¬ σ.1 30 L' = nI 14 := by rw [b1.2.1]; exact h2
      obtain ⟨σ', es⟩ : ∃ v, v = su (su σ 7 (fun _ => nI n)) 8 (fun _ => nI L') := ⟨_, rfl⟩
      obtain ⟨τ', et⟩ : ∃ v, v = su (su (su τ 0 (fun _ => nI 0)) 9 (fun _ => nI n)) 6 (fun _ => nI L') := ⟨_, rfl⟩
      have kσ : KE [7, 8] σ σ' := by rw [es]; exact (KE.rf.s (by decide)).s (by decide)
      have kτ : KE [0, 9, 6] τ τ' := by rw [et]; exact ((KE.rf.s (by decide)).s (by decide)).s (by decide)
      have hRV : RV F T σ' τ' := by
        refine RV_un hh.1.1 kσ kτ (by decide) (by decide) b1 c1' (fun k hk => d1 k (by omega)) (L := L') (B := B) (n := n) (O := O) ⟨?_, ?_, ?_, ?_, ?_, ?_, ?_, ?_⟩ ?_ ?_
        · rw [es]; rfl
        · rw [et]; rfl
        · rw [kσ 9 (by decide)]; exact a1
        · rw [kτ 7 (by decide)]; exact a2
        · rw [es]; rfl
        · rw [et]; rfl
        · rw [kσ 10 (by decide)]; exact a3
        · rw [kσ 11 (by decide), kτ 8 (by decide)]; exact a4
        · rw [kσ 37 (by decide), kτ 26 (by decide)]; exact b1.2.2.2.2.2.1
        · rw [kτ 8 (by decide), kτ 26 (by decide)]; exact h3
      refine Or.inl ⟨nI L', σ', τ', ?_, ?_, by rw [et]; rfl, F, T, hf.c (.k kσ (by decide)) (by rw [es]; rfl) (.k kτ (by decide)), ht.c (.k kσ (by decide)) (.k kτ (by decide)), hp.c (.k kσ (by decide)) (.k kτ (by decide)), hh.c (Nat.le_refl _) (.k kσ (by decide)) (.k kτ (by decide)), hRV⟩
      · rw [es]
        by_cases hz : L' = 0
        · subst hz
          simp (implicitDefEqProofs := false) (disch := omega) only [mX7_undo, mX3_wasBegun, mX3_takeBack, mX3_takeBack_69, mX3_ruleOf, mX3_lineCount, a7, a8, e35, e30, Nat.add_sub_cancel, ↓bnd_e, ↓ob_s, ob_s, su_1, su_2, sl_1, sl_2, ↓ck_n, ck_n, ck_Z0, ck_Z1, c_lt, c_le, c_eq, ng_1, m_ne, m_en, m_lt, m_le, m_gt, m_ge, n_add, n_mul, n_sub, n_sm, n_pm, n_0m, n_cl, Nat.reduceEqDiff, ↓reduceIte, nle_T, nle_F, nlt_T, nlt_F, neq_F, neq_T, if_true, if_false, true_and, and_true, Nat.mul_zero, Nat.zero_add, Nat.add_zero, Nat.reduceAdd, Nat.reduceMul, Nat.reduceSub, li_0, li_1, li_2, li_3, li_4, li_5, li_6, li_7, li_8, li_9, li_10, li_11, li_12, li_13, li_14, li_15, li_16, li_20, li_24, li_28, li_31, li_35, li_38, li_40, li_41, li_45, li_48, li_60, li_62, li_63, li_97, li_100, li_104, li_105, li_120, li_124, li_127, li_180, li_239, li_240, li_255, li_256, li_300, li_400, li_960, li_1000000]
        · simp (implicitDefEqProofs := false) (disch := omega) only [mX7_undo, mX3_wasBegun, mX3_takeBack, mX3_takeBack_69, mX3_ruleOf, mX3_lineCount, a7, a8, e35, e30, Nat.add_sub_cancel, ↓bnd_e, ↓ob_s, ob_s, su_1, su_2, sl_1, sl_2, ↓ck_n, ck_n, ck_Z0, ck_Z1, c_lt, c_le, c_eq, ng_1, m_ne, m_en, m_lt, m_le, m_gt, m_ge, n_add, n_mul, n_sub, n_sm, n_pm, n_0m, n_cl, Nat.reduceEqDiff, ↓reduceIte, nle_T, nle_F, nlt_T, nlt_F, neq_F, neq_T, if_true, if_false, true_and, and_true, Nat.mul_zero, Nat.zero_add, Nat.add_zero, Nat.reduceAdd, Nat.reduceMul, Nat.reduceSub, li_0, li_1, li_2, li_3, li_4, li_5, li_6, li_7, li_8, li_9, li_10, li_11, li_12, li_13, li_14, li_15, li_16, li_20, li_24, li_28, li_31, li_35, li_38, li_40, li_41, li_45, li_48, li_60, li_62, li_63, li_97, li_100, li_104, li_105, li_120, li_124, li_127, li_180, li_239, li_240, li_255, li_256, li_300, li_400, li_960, li_1000000]
      · rw [et]
        simp (implicitDefEqProofs := false) (disch := omega) only [mX8_undo, a9, a6, h1, h2, Nat.add_sub_cancel, ↓bnd_e, ↓ob_s, ob_s, su_1, su_2, sl_1, sl_2, ↓ck_n, ck_n, ck_Z0, ck_Z1, c_lt, c_le, c_eq, ng_1, m_ne, m_en, m_lt, m_le, m_gt, m_ge, n_add, n_mul, n_sub, n_sm, n_pm, n_0m, n_cl, Nat.reduceEqDiff, ↓reduceIte, nle_T, nle_F, nlt_T, nlt_F, neq_F, neq_T, if_true, if_false, true_and, and_true, Nat.mul_zero, Nat.zero_add, Nat.add_zero, Nat.reduceAdd, Nat.reduceMul, Nat.reduceSub, li_0, li_1, li_2, li_3, li_4, li_5, li_6, li_7, li_8, li_9, li_10, li_11, li_12, li_13, li_14, li_15, li_16, li_20, li_24, li_28, li_31, li_35, li_38, li_40, li_41, li_45, li_48, li_60, li_62, li_63, li_97, li_100, li_104, li_105, li_120, li_124, li_127, li_180, li_239, li_240, li_255, li_256, li_300, li_400, li_960, li_1000000]
    · have e35 : σ.1 35 n = mI := by
        rcases hd with ⟨e, _⟩ | ⟨b, hb, _, e⟩
        · exact e
        · rw [h1] at e; exact (dd_n hb (by omega) e).elim
      have e30 : σ.1 30 L' = nI 14 := by rw [b1.2.1]; exact h2
      obtain ⟨σ', es⟩ : ∃ v, v = su (su (su (su (su σ 7 (fun _ => nI n)) 11 (fun _ => σ.1 38 B')) 10 (fun _ => nI O')) 9 (fun _ => nI B')) 8 (fun _ => nI L') := ⟨_, rfl⟩
      obtain ⟨τ', et⟩ : ∃ v, v = su (su (su (su (su τ 0 (fun _ => nI 0)) 9 (fun _ => nI n)) 6 (fun _ => nI L')) 7 (fun _ => nI B')) 8 (fun _ => τ.1 27 B') := ⟨_, rfl⟩
      have kσ : KE [7, 11, 10, 9, 8] σ σ' := by rw [es]; exact ((((KE.rf.s (by decide)).s (by decide)).s (by decide)).s (by decide)).s (by decide)
      have kτ : KE [0, 9, 6, 7, 8] τ τ' := by rw [et]; exact ((((KE.rf.s (by decide)).s (by decide)).s (by decide)).s (by decide)).s (by decide)
      have t8 : τ'.1 8 0 = τ.1 27 B' := by rw [et]; rfl
      have hRV : RV F T σ' τ' := by
        refine RV_un hh.1.1 kσ kτ (by decide) (by decide) b1 c1' (fun k hk => d1 k (by omega)) (L := L') (B := B') (n := n) (O := O') ⟨?_, ?_, ?_, ?_, ?_, ?_, ?_, ?_⟩ ?_ ?_
        · rw [es]; rfl
        · rw [et]; rfl
        · rw [es]; rfl
        · rw [et]; rfl
        · rw [es]; rfl
        · rw [et]; rfl
        · rw [es]; rfl
        · rw [t8, es]; show σ.1 38 B' = _; rw [b1.2.2.2.2.2.2]
        · rw [kσ 37 (by decide), kτ 26 (by decide)]; exact b1.2.2.2.2.2.1
        · rw [t8, kτ 26 (by decide)]; exact h4
      refine Or.inl ⟨nI L', σ', τ', ?_, ?_, by rw [et]; rfl, F, T, hf.c (.k kσ (by decide)) (by rw [es]; rfl) (.k kτ (by decide)), ht.c (.k kσ (by decide)) (.k kτ (by decide)), hp.c (.k kσ (by decide)) (.k kτ (by decide)), hh.c (Nat.le_refl _) (.k kσ (by decide)) (.k kτ (by decide)), hRV⟩
      · rw [es]
        by_cases hz : L' = 0
        · subst hz
          simp (implicitDefEqProofs := false) (disch := omega) only [mX7_undo, mX3_wasBegun, mX3_takeBack, mX3_takeBack_69, mX3_ruleOf, mX3_lineCount, mX0_dropLatest, a7, a8, a1, a3, e35, e30, Nat.add_sub_cancel, ↓bnd_e, ↓ob_s, ob_s, su_1, su_2, sl_1, sl_2, ↓ck_n, ck_n, ck_Z0, ck_Z1, c_lt, c_le, c_eq, ng_1, m_ne, m_en, m_lt, m_le, m_gt, m_ge, n_add, n_mul, n_sub, n_sm, n_pm, n_0m, n_cl, Nat.reduceEqDiff, ↓reduceIte, nle_T, nle_F, nlt_T, nlt_F, neq_F, neq_T, if_true, if_false, true_and, and_true, Nat.mul_zero, Nat.zero_add, Nat.add_zero, Nat.reduceAdd, Nat.reduceMul, Nat.reduceSub, li_0, li_1, li_2, li_3, li_4, li_5, li_6, li_7, li_8, li_9, li_10, li_11, li_12, li_13, li_14, li_15, li_16, li_20, li_24, li_28, li_31, li_35, li_38, li_40, li_41, li_45, li_48, li_60, li_62, li_63, li_97, li_100, li_104, li_105, li_120, li_124, li_127, li_180, li_239, li_240, li_255, li_256, li_300, li_400, li_960, li_1000000]
        · simp (implicitDefEqProofs := false) (disch := omega) only [mX7_undo, mX3_wasBegun, mX3_takeBack, mX3_takeBack_69, mX3_ruleOf, mX3_lineCount, mX0_dropLatest, a7, a8, a1, a3, e35, e30, Nat.add_sub_cancel, ↓bnd_e, ↓ob_s, ob_s, su_1, su_2, sl_1, sl_2, ↓ck_n, ck_n, ck_Z0, ck_Z1, c_lt, c_le, c_eq, ng_1, m_ne, m_en, m_lt, m_le, m_gt, m_ge, n_add, n_mul, n_sub, n_sm, n_pm, n_0m, n_cl, Nat.reduceEqDiff, ↓reduceIte, nle_T, nle_F, nlt_T, nlt_F, neq_F, neq_T, if_true, if_false, true_and, and_true, Nat.mul_zero, Nat.zero_add, Nat.add_zero, Nat.reduceAdd, Nat.reduceMul, Nat.reduceSub, li_0, li_1, li_2, li_3, li_4, li_5, li_6, li_7, li_8, li_9, li_10, li_11, li_12, li_13, li_14, li_15, li_16, li_20, li_24, li_28, li_31, li_35, li_38, li_40, li_41, li_45, li_48, li_60, li_62, li_63, li_97, li_100, li_104, li_105, li_120, li_124, li_127, li_180, li_239, li_240, li_255, li_256, li_300, li_400, li_960, li_1000000]
      · rw [et]
        simp (implicitDefEqProofs := false) (disch := omega) only [mX8_undo, a9, a6, a2, h1, h2, Nat.add_sub_cancel, ↓bnd_e, ↓ob_s, ob_s, su_1, su_2, sl_1, sl_2, ↓ck_n, ck_n, ck_Z0, ck_Z1, c_lt, c_le, c_eq, ng_1, m_ne, m_en, m_lt, m_le, m_gt, m_ge, n_add, n_mul, n_sub, n_sm, n_pm, n_0m, n_cl, Nat.reduceEqDiff, ↓reduceIte, nle_T, nle_F, nlt_T, nlt_F, neq_F, neq_T, if_true, if_false, true_and, and_true, Nat.mul_zero, Nat.zero_add, Nat.add_zero, Nat.reduceAdd, Nat.reduceMul, Nat.reduceSub, li_0, li_1, li_2, li_3, li_4, li_5, li_6, li_7, li_8, li_9, li_10, li_11, li_12, li_13, li_14, li_15, li_16, li_20, li_24, li_28, li_31, li_35, li_38, li_40, li_41, li_45, li_48, li_60, li_62, li_63, li_97, li_100, li_104, li_105, li_120, li_124, li_127, li_180, li_239, li_240, li_255, li_256, li_300, li_400, li_960, li_1000000]
    · have hb60 : b < 60 := by omega
      have e35 : σ.1 35 n = nI b := by
        rcases hd with ⟨_, k, hk, e⟩ | ⟨b', hb', e1, e⟩
        · rw [h2] at e; exact (dd_n hb60 (by omega) e.symm).elim
        · rw [h2] at e
          have q : nI b = nI b' := by rw [← (dd_v b hb60).2, e, (dd_v b' hb').2]
          rw [e1, q]
      have f1 : (nI 0 ≤ mI - nI b) = False := eq_false (dd_v b hb60).1
      have f2 := (dd_v b hb60).2
      obtain ⟨σ', es⟩ : ∃ v, v = su (su (su (su σ 7 (fun _ => nI n)) 37 (upd (σ.1 37) b mI)) 11 (fun _ => nI b)) 10 (fun _ => nI (O + 1)) := ⟨_, rfl⟩
      obtain ⟨τ', et⟩ : ∃ v, v = su (su (su (su τ 0 (fun _ => nI 0)) 9 (fun _ => nI n)) 26 (upd (τ.1 26) b mI)) 8 (fun _ => nI b) := ⟨_, rfl⟩
      have kσ : KE [7, 37, 11, 10] σ σ' := by rw [es]; exact (((KE.rf.s (by decide)).s (by decide)).s (by decide)).s (by decide)
      have kτ : KE [0, 9, 26, 8] τ τ' := by rw [et]; exact (((KE.rf.s (by decide)).s (by decide)).s (by decide)).s (by decide)
      have t8 : τ'.1 8 0 = nI b := by rw [et]; rfl
      have t26 : τ'.1 26 = upd (τ.1 26) b mI := by rw [et]; rfl
      have hRV : RV F T σ' τ' := by
        refine RV_un hh.1.1 kσ kτ (by decide) (by decide) b1 c1' d1 (L := L) (B := B) (n := n) (O := O + 1) ⟨?_, ?_, ?_, ?_, ?_, ?_, ?_, ?_⟩ ?_ ?_
        · rw [kσ 8 (by decide)]; exact a8
        · rw [kτ 6 (by decide)]; exact a6
        · rw [kσ 9 (by decide)]; exact a1
        · rw [kτ 7 (by decide)]; exact a2
        · rw [es]; rfl
        · rw [et]; rfl
        · rw [es]; rfl
        · rw [t8, es]; rfl
        · rw [t26, es]; show upd (σ.1 37) b mI = _; rw [b1.2.2.2.2.2.1]
        · rw [t8, t26]; exact h3
      refine Or.inl ⟨nI L, σ', τ', ?_, ?_, by rw [et]; rfl, F, T, hf.c (.k kσ (by decide)) (by rw [es]; rfl) (.k kτ (by decide)), ht.c (.k kσ (by decide)) (.k kτ (by decide)), hp.c (.k kσ (by decide)) (.k kτ (by decide)), hh.c (Nat.le_refl _) (.k kσ (by decide)) (.k kτ (by decide)), hRV⟩
      · rw [es]
        simp (implicitDefEqProofs := false) (disch := omega) only [mX7_undo, mX3_wasBegun, mX3_takeBack, mX3_lineCount, mX0_reopen, a7, a8, a1, a3, e35, Nat.add_sub_cancel, ↓bnd_e, ↓ob_s, ob_s, su_1, su_2, sl_1, sl_2, ↓ck_n, ck_n, ck_Z0, ck_Z1, c_lt, c_le, c_eq, ng_1, m_ne, m_en, m_lt, m_le, m_gt, m_ge, n_add, n_mul, n_sub, n_sm, n_pm, n_0m, n_cl, Nat.reduceEqDiff, ↓reduceIte, nle_T, nle_F, nlt_T, nlt_F, neq_F, neq_T, if_true, if_false, true_and, and_true, Nat.mul_zero, Nat.zero_add, Nat.add_zero, Nat.reduceAdd, Nat.reduceMul, Nat.reduceSub, li_0, li_1, li_2, li_3, li_4, li_5, li_6, li_7, li_8, li_9, li_10, li_11, li_12, li_13, li_14, li_15, li_16, li_20, li_24, li_28, li_31, li_35, li_38, li_40, li_41, li_45, li_48, li_60, li_62, li_63, li_97, li_100, li_104, li_105, li_120, li_124, li_127, li_180, li_239, li_240, li_255, li_256, li_300, li_400, li_960, li_1000000]
      · rw [et]
        simp (implicitDefEqProofs := false) (disch := omega) only [mX8_undo, a9, a6, a2, h2, f1, f2, Nat.add_sub_cancel, ↓bnd_e, ↓ob_s, ob_s, su_1, su_2, sl_1, sl_2, ↓ck_n, ck_n, ck_Z0, ck_Z1, c_lt, c_le, c_eq, ng_1, m_ne, m_en, m_lt, m_le, m_gt, m_ge, n_add, n_mul, n_sub, n_sm, n_pm, n_0m, n_cl, Nat.reduceEqDiff, ↓reduceIte, nle_T, nle_F, nlt_T, nlt_F, neq_F, neq_T, if_true, if_false, true_and, and_true, Nat.mul_zero, Nat.zero_add, Nat.add_zero, Nat.reduceAdd, Nat.reduceMul, Nat.reduceSub, li_0, li_1, li_2, li_3, li_4, li_5, li_6, li_7, li_8, li_9, li_10, li_11, li_12, li_13, li_14, li_15, li_16, li_20, li_24, li_28, li_31, li_35, li_38, li_40, li_41, li_45, li_48, li_60, li_62, li_63, li_97, li_100, li_104, li_105, li_120, li_124, li_127, li_180, li_239, li_240, li_255, li_256, li_300, li_400, li_960, li_1000000]
