theorem fill_l {v : Int32} : ∀ d k n (s : St), k + d = 240 → d < n → ∃ s', mJ7_fill_53178_5 n s v (nI k) (nI 240) = some s' ∧ KE [28] s s' ∧ s'.2 = s.2 ∧ (∀ q, q < k → s'.1 28 q = s.1 28 q) ∧ ∀ q, k ≤ q → q < 240 → s'.1 28 q = v := by
  intro d
  induction d with
  | zero =>
    intro k n s hk hn
    obtain ⟨n, rfl⟩ : ∃ m, n = m + 1 := ⟨n - 1, by omega⟩
    have : k = 240 := by omega
    subst this
    refine ⟨s, ?_, KE.rf, rfl, fun _ _ => rfl, fun q h1 h2 => by omega⟩
    simp (implicitDefEqProofs := false) (disch := omega) only [fx_s, bJ7_fill_53178_5, ↓bnd_e, ↓ob_s, ob_s, su_1, su_2, sl_1, sl_2, ↓ck_n, ck_n, ck_Z0, ck_Z1, c_lt, c_le, c_eq, ng_1, m_ne, m_en, m_lt, m_le, m_gt, m_ge, n_add, n_mul, n_sub, n_sm, n_pm, n_0m, n_cl, Nat.reduceEqDiff, ↓reduceIte, nle_T, nle_F, nlt_T, nlt_F, neq_F, neq_T, if_true, if_false, true_and, and_true, Nat.mul_zero, Nat.zero_add, Nat.add_zero, Nat.reduceAdd, Nat.reduceMul, Nat.reduceSub, li_0, li_1, li_2, li_3, li_4, li_5, li_6, li_7, li_8, li_9, li_10, li_11, li_12, li_13, li_14, li_15, li_16, li_20, li_24, li_28, li_31, li_35, li_38, li_40, li_41, li_45, li_48, li_60, li_62, li_63, li_97, li_100, li_104, li_105, li_120, li_124, li_127, li_180, li_239, li_240, li_255, li_256, li_300, li_400, li_960, li_1000000]
  | succ d ih =>
    intro k n s hk hn
    obtain ⟨n, rfl⟩ : ∃ m, n = m + 1 := ⟨n - 1, by omega⟩
    obtain ⟨s', a1, a2, a3, a4, a5⟩ := ih (k + 1) n (su s 28 (upd (s.1 28) k v)) (by omega) (by omega)
    refine ⟨s', ?_, (KE.rf.s (by decide)).tr a2, a3, fun q hq => ?_, fun q h1 h2 => ?_⟩
    · rw [← a1]
      simp (implicitDefEqProofs := false) (disch := omega) only [fx_s, bJ7_fill_53178_5, ↓bnd_e, ↓ob_s, ob_s, su_1, su_2, sl_1, sl_2, ↓ck_n, ck_n, ck_Z0, ck_Z1, c_lt, c_le, c_eq, ng_1, m_ne, m_en, m_lt, m_le, m_gt, m_ge, n_add, n_mul, n_sub, n_sm, n_pm, n_0m, n_cl, Nat.reduceEqDiff, ↓reduceIte, nle_T, nle_F, nlt_T, nlt_F, neq_F, neq_T, if_true, if_false, true_and, and_true, Nat.mul_zero, Nat.zero_add, Nat.add_zero, Nat.reduceAdd, Nat.reduceMul, Nat.reduceSub, li_0, li_1, li_2, li_3, li_4, li_5, li_6, li_7, li_8, li_9, li_10, li_11, li_12, li_13, li_14, li_15, li_16, li_20, li_24, li_28, li_31, li_35, li_38, li_40, li_41, li_45, li_48, li_60, li_62, li_63, li_97, li_100, li_104, li_105, li_120, li_124, li_127, li_180, li_239, li_240, li_255, li_256, li_300, li_400, li_960, li_1000000]
    · rw [a4 q (by omega), su_1, if_pos rfl, pk_un (by omega)]
    · by_cases e : q = k
      · rw [e, a4 k (by omega), su_1, if_pos rfl, pk_us]
      · exact a5 q (by omega) h2
theorem clear_l {F : Nat} (hF : F ≤ 240) : ∀ d k n (t : St), k + d = F → d < n → t.1 5 0 = nI F → ∃ t', mX8_clearStands_2 n t (nI k) = some t' ∧ KE [39] t t' ∧ (∀ q, q < k → t'.1 39 q = t.1 39 q) ∧ ∀ q, k ≤ q → q < F → t'.1 39 q = mI := by
  intro d
  induction d with
  | zero =>
    intro k n t hk hn h5
    obtain ⟨n, rfl⟩ : ∃ m, n = m + 1 := ⟨n - 1, by omega⟩
    refine ⟨t, ?_, KE.rf, fun _ _ => rfl, fun q h1 h2 => by omega⟩
    simp (implicitDefEqProofs := false) (disch := omega) only [fx_s, bX8_clearStands_2, h5, ↓bnd_e, ↓ob_s, ob_s, su_1, su_2, sl_1, sl_2, ↓ck_n, ck_n, ck_Z0, ck_Z1, c_lt, c_le, c_eq, ng_1, m_ne, m_en, m_lt, m_le, m_gt, m_ge, n_add, n_mul, n_sub, n_sm, n_pm, n_0m, n_cl, Nat.reduceEqDiff, ↓reduceIte, nle_T, nle_F, nlt_T, nlt_F, neq_F, neq_T, if_true, if_false, true_and, and_true, Nat.mul_zero, Nat.zero_add, Nat.add_zero, Nat.reduceAdd, Nat.reduceMul, Nat.reduceSub, li_0, li_1, li_2, li_3, li_4, li_5, li_6, li_7, li_8, li_9, li_10, li_11, li_12, li_13, li_14, li_15, li_16, li_20, li_24, li_28, li_31, li_35, li_38, li_40, li_41, li_45, li_48, li_60, li_62, li_63, li_97, li_100, li_104, li_105, li_120, li_124, li_127, li_180, li_239, li_240, li_255, li_256, li_300, li_400, li_960, li_1000000]
  | succ d ih =>
    intro k n t hk hn h5
    obtain ⟨n, rfl⟩ : ∃ m, n = m + 1 := ⟨n - 1, by omega⟩
    obtain ⟨t', a1, a2, a4, a5⟩ := ih (k + 1) n (su t 39 (upd (t.1 39) k mI)) (by omega) (by omega) h5
    refine ⟨t', ?_, (KE.rf.s (by decide)).tr a2, fun q hq => ?_, fun q h1 h2 => ?_⟩
    · rw [← a1]
      simp (implicitDefEqProofs := false) (disch := omega) only [fx_s, bX8_clearStands_2, h5, ↓bnd_e, ↓ob_s, ob_s, su_1, su_2, sl_1, sl_2, ↓ck_n, ck_n, ck_Z0, ck_Z1, c_lt, c_le, c_eq, ng_1, m_ne, m_en, m_lt, m_le, m_gt, m_ge, n_add, n_mul, n_sub, n_sm, n_pm, n_0m, n_cl, Nat.reduceEqDiff, ↓reduceIte, nle_T, nle_F, nlt_T, nlt_F, neq_F, neq_T, if_true, if_false, true_and, and_true, Nat.mul_zero, Nat.zero_add, Nat.add_zero, Nat.reduceAdd, Nat.reduceMul, Nat.reduceSub, li_0, li_1, li_2, li_3, li_4, li_5, li_6, li_7, li_8, li_9, li_10, li_11, li_12, li_13, li_14, li_15, li_16, li_20, li_24, li_28, li_31, li_35, li_38, li_40, li_41, li_45, li_48, li_60, li_62, li_63, li_97, li_100, li_104, li_105, li_120, li_124, li_127, li_180, li_239, li_240, li_255, li_256, li_300, li_400, li_960, li_1000000]
    · rw [a4 q (by omega), su_1, if_pos rfl, pk_un (by omega)]
    · by_cases e : q = k
      · rw [e, a4 k (by omega), su_1, if_pos rfl, pk_us]
      · exact a5 q (by omega) h2
/-- the class's walk over all images, from the highest down -/
theorem m6_walk {F : Nat} {σ τ : St} (h : RF F σ τ) : ∀ k n (s : St) (b : Bool), k ≤ 240 → k < n → KE [28] σ s → mtP F (s.1 28) → (∀ q, F ≤ q → q < 240 → s.1 28 q = mI) →
    (b = true → ∀ q f, k ≤ q → q < F → f < F → s.1 28 q = nI f → mtC τ (s.1 28) q f) →
    ∃ (b' : Bool) (s' : St), mX6_saysWithPremises_69 n s (zB b) (ixD k) = some (zB b', s') ∧ KE [28] σ s' ∧ s'.2 = s.2 ∧ mtS F (s.1 28) (s'.1 28) ∧ (b' = true → b = true ∧ mtG F τ (s'.1 28)) ∧
      ∀ φ, mtG F τ φ → mtS F (s.1 28) φ → b = true → b' = true ∧ mtS F (s'.1 28) φ := by
  have hF := h.le
  intro k
  induction k with
  | zero =>
    intro n s b hk hn hK hP hq hb
    obtain ⟨n, rfl⟩ : ∃ m, n = m + 1 := ⟨n - 1, by omega⟩
    refine ⟨b, s, ?_, hK, rfl, mtS.rf, fun e => ⟨e, hP, fun p f hp hf e1 => hb e p f (by omega) hp hf e1⟩, fun φ _ y2 y3 => ⟨y3, y2⟩⟩
    have e : ixD 0 = mI := rfl
    rw [e]
    show bX6_saysWithPremises_69 (mX6_saysWithPremises_69 n) s (zB b) mI = _
    unfold bX6_saysWithPremises_69
    rw [if_pos (by decide), ck_zB]
  | succ k ih =>
    intro n s b hk hn hK hP hq hb
    obtain ⟨n, rfl⟩ : ∃ m, n = m + 1 := ⟨n - 1, by omega⟩
    rw [ixD_s]
    cases b
    · refine ⟨false, s, ?_, hK, rfl, mtS.rf, fun e => absurd e (by decide), fun φ _ _ y3 => absurd y3 (by decide)⟩
      rw [zB_0]
      simp (implicitDefEqProofs := false) (disch := omega) only [fx_s, bX6_saysWithPremises_69, ↓bnd_e, ↓ob_s, ob_s, su_1, su_2, sl_1, sl_2, ↓ck_n, ck_n, ck_Z0, ck_Z1, c_lt, c_le, c_eq, ng_1, m_ne, m_en, m_lt, m_le, m_gt, m_ge, n_add, n_mul, n_sub, n_sm, n_pm, n_0m, n_cl, Nat.reduceEqDiff, ↓reduceIte, nle_T, nle_F, nlt_T, nlt_F, neq_F, neq_T, if_true, if_false, true_and, and_true, Nat.mul_zero, Nat.zero_add, Nat.add_zero, Nat.reduceAdd, Nat.reduceMul, Nat.reduceSub, li_0, li_1, li_2, li_3, li_4, li_5, li_6, li_7, li_8, li_9, li_10, li_11, li_12, li_13, li_14, li_15, li_16, li_20, li_24, li_28, li_31, li_35, li_38, li_40, li_41, li_45, li_48, li_60, li_62, li_63, li_97, li_100, li_104, li_105, li_120, li_124, li_127, li_180, li_239, li_240, li_255, li_256, li_300, li_400, li_960, li_1000000]
    · have hm : s.1 28 k = mI ∨ ∃ f, k < F ∧ f < F ∧ s.1 28 k = nI f := by
        by_cases hkF : k < F
        · rcases hP k hkF with e | ⟨f, f1, f2⟩
          · exact Or.inl e
          · exact Or.inr ⟨f, hkF, f1, f2⟩
        · exact Or.inl (hq k (by omega) (by omega))
      rcases hm with e | ⟨f, hkF, hf, e⟩
      · obtain ⟨b', s', a1, a2, a3, a4, a5, a6⟩ := ih n s true (by omega) (by omega) hK hP hq (fun _ q f h1 h2 h3 h4 => by
          by_cases e2 : q = k
          · rw [e2, e, m_en (by omega)] at h4; exact h4.elim
          · exact hb rfl q f (by omega) h2 h3 h4)
        refine ⟨b', s', ?_, a2, a3, a4, a5, a6⟩
        rw [← a1, zB_1, ← ixD_m k (by omega)]
        have lm : (mI < nI 0) = True := m_lt (by omega)
        have ng : (-1 : Int32) = mI := rfl
        rw [ng]
        show bX6_saysWithPremises_69 (mX6_saysWithPremises_69 n) s (nI 1) (nI k) = _
        unfold bX6_saysWithPremises_69
        rw [if_neg (show ¬ nI k < 0 from nI_pos (by omega)), if_neg (by decide), ck_n _ (by omega) (by omega), n_cl (by omega), e, if_pos (by decide)]
        unfold mX6_saysWithPremises_105 mX6_saysWithPremises_110
        rw [bnd_e]; rfl
      · obtain ⟨c, s1, r1, r2, r3, r4, r5, r6, r7, r8⟩ := m6_parts h hkF hf hK hP
        obtain ⟨b', s', a1, a2, a3, a4, a5, a6⟩ := ih n s1 c (by omega) (by omega) r2 r4 (fun q h1 h2 => by rw [r6 q (by omega)]; exact hq q h1 h2) (fun hc q v h1 h2 h3 h4 => by
          by_cases e2 : q = k
          · subst e2
            rw [r6 q (Nat.le_refl _), e, c_eq (by omega) (by omega)] at h4
            subst h4
            exact r7 hc
          · rw [r6 q (by omega)] at h4
            exact (hb rfl q v (by omega) h2 h3 h4).mono h r5 h2 h3)
        refine ⟨b', s', ?_, a2, a3.trans r3, r5.tr a4, fun e2 => ⟨rfl, (a5 e2).2⟩, fun φ y1 y2 _ => ?_⟩
        · rw [← a1, zB_1, ← ixD_m k (by omega)]
          show bX6_saysWithPremises_69 (mX6_saysWithPremises_69 n) s (nI 1) (nI k) = _
          unfold bX6_saysWithPremises_69
          rw [if_neg (show ¬ nI k < 0 from nI_pos (by omega)), if_neg (by decide), ck_n _ (by omega) (by omega), n_cl (by omega), e, if_neg (show ¬ nI f < 0 from nI_pos (by omega)), ck_n _ (by omega) (by omega), r1, ob_s]
          cases c
          · dsimp only
            rw [zB_0, if_pos (by decide)]
            unfold mX6_saysWithPremises_110
            rw [bnd_e]; rfl
          · dsimp only
            rw [zB_1, if_neg (by decide)]
            unfold mX6_saysWithPremises_105 mX6_saysWithPremises_110
            rw [bnd_e]; rfl
        · obtain ⟨z1, z2⟩ := r8 φ y1 y2 (y2 k f hkF hf e)
          exact a6 φ y1 z2 z1
/-- the outcome of a matching -/
def mtF (F : Nat) (τ : St) (b : Bool) (g : Nat → Int32) (C : (Nat → Int32) → Prop) : Prop := (b = true → C g ∧ mtG F τ g) ∧ ∀ φ, mtG F τ φ → C φ → b = true ∧ mtS F g φ
theorem mtF.eq {F : Nat} {τ : St} {b b' : Bool} {g g' : Nat → Int32} {C : (Nat → Int32) → Prop} (h : mtF F τ b g C) (h' : mtF F τ b' g' C) : b = b' ∧ (b = true → ∀ p, p < F → g p = g' p) := by
  have key : b = true → b' = true ∧ mtS F g' g := fun e => h'.2 g (h.1 e).2 (h.1 e).1
  have key' : b' = true → b = true ∧ mtS F g g' := fun e => h.2 g' (h'.1 e).2 (h'.1 e).1
  have eb : b = b' := by
    cases hb : b
    · cases hb' : b'
      · rfl
      · have := (key' hb').1; rw [hb] at this; exact this
    · exact (key hb).1.symm
  refine ⟨eb, fun e p hp => ?_⟩
  obtain ⟨e', s⟩ := key e
  obtain ⟨_, s'⟩ := key' e'
  rcases (h.1 e).2.1 p hp with x | ⟨f, hf, x⟩
  · rcases (h'.1 e').2.1 p hp with y | ⟨f, hf, y⟩
    · rw [x, y]
    · rw [s p f hp hf y, y]
  · rw [s' p f hp hf x, x]
def mtK (c p1 p2 f m : Nat) (x y : Int32) (φ : Nat → Int32) : Prop := φ c = nI f ∧ (0 < m → φ p1 = x) ∧ (1 < m → φ p2 = y)
/-- what is known of a theorem -/
theorem theo_p {F T : Nat} {σ τ : St} (h : RH F T σ τ) {t : Nat} (ht : t < T) : ∃ c m p1 p2, c < F ∧ m ≤ 2 ∧ σ.1 22 t = nI c ∧ τ.1 29 t = nI c ∧ τ.1 30 t = nI m ∧ (0 < m → p1 < F ∧ σ.1 23 t = nI p1 ∧ τ.1 31 (2 * t) = nI p1) ∧ (1 < m → p2 < F ∧ σ.1 24 t = nI p2 ∧ τ.1 31 (2 * t + 1) = nI p2) := by
  obtain ⟨_, ⟨e22, _⟩, hj⟩ := h
  obtain ⟨⟨c, c1, c2⟩, a1, a2, ⟨m, m1, m2, m3⟩, _⟩ := hj t ht
  have w0 := m3 0 (by omega)
  have w1 := m3 1 (by omega)
  rw [Nat.add_zero] at w0
  have x0 : ∃ p1, 0 < m → p1 < F ∧ τ.1 31 (2 * t) = nI p1 := by
    by_cases h0 : 0 < m
    · rw [if_pos h0] at w0
      obtain ⟨p, q1, q2⟩ := w0
      exact ⟨p, fun _ => ⟨q1, q2⟩⟩
    · exact ⟨0, fun h => absurd h h0⟩
  have x1 : ∃ p2, 1 < m → p2 < F ∧ τ.1 31 (2 * t + 1) = nI p2 := by
    by_cases h0 : 1 < m
    · rw [if_pos h0] at w1
      obtain ⟨p, q1, q2⟩ := w1
      exact ⟨p, fun _ => ⟨q1, q2⟩⟩
    · exact ⟨0, fun h => absurd h h0⟩
  obtain ⟨p1, x0⟩ := x0
  obtain ⟨p2, x1⟩ := x1
  exact ⟨c, m, p1, p2, c1, m1, by rw [e22]; exact c2, c2, m2, fun h0 => ⟨(x0 h0).1, by rw [a1]; exact (x0 h0).2, (x0 h0).2⟩, fun h1 => ⟨(x1 h1).1, by rw [a2]; exact (x1 h1).2, (x1 h1).2⟩⟩
/-- the class: whether a theorem says a formula, with its first m premises -/
theorem says_c {F T : Nat} {σ τ : St} (hf : RF F σ τ) (hT : T ≤ 16) (h6 : σ.1 6 0 = nI T) {t c p1 p2 f m x y : Nat} (ht : t < T) (hc : c < F) (hff : f < F) (hm : m ≤ 2) (e22 : σ.1 22 t = nI c) (e23 : 0 < m → p1 < F ∧ σ.1 23 t = nI p1 ∧ x < F) (e24 : 1 < m → p2 < F ∧ σ.1 24 t = nI p2 ∧ y < F) :
    ∃ (b : Bool) (s' : St), mX6_saysWithPremises σ (nI t) (nI f) (if 0 < m then nI x else mI) (if 1 < m then nI y else mI) = some (zB b, s') ∧ KE [28] σ s' ∧ s'.2 = σ.2 ∧ mtF F τ b (s'.1 28) (mtK c p1 p2 f m (nI x) (nI y)) := by
  have hF := hf.le
  obtain ⟨s0, a1, a2, a3, _, a5⟩ := fill_l (v := mI) 240 0 NF σ (by omega) (by decide)
  have ef : mJ7_fill_53178 σ (-1) = some s0 := a1
  have P0 : mtP F (s0.1 28) := fun p hp => Or.inl (a5 p (by omega) (by omega))
  have S0 : ∀ φ, mtS F (s0.1 28) φ := fun φ p f hp _ e => by rw [a5 p (by omega) (by omega), m_en (by have := hF; omega)] at e; exact e.elim
  have ecc : mX6_conclusion s0 (nI t) = some (nI c) := by
    have w6 : s0.1 6 0 = nI T := by rw [a2 6 (by decide)]; exact h6
    have w22 : s0.1 22 t = nI c := by rw [a2 22 (by decide)]; exact e22
    simp (implicitDefEqProofs := false) (disch := omega) only [mX6_conclusion, w6, w22, ↓bnd_e, ↓ob_s, ob_s, su_1, su_2, sl_1, sl_2, ↓ck_n, ck_n, ck_Z0, ck_Z1, c_lt, c_le, c_eq, ng_1, m_ne, m_en, m_lt, m_le, m_gt, m_ge, n_add, n_mul, n_sub, n_sm, n_pm, n_0m, n_cl, Nat.reduceEqDiff, ↓reduceIte, nle_T, nle_F, nlt_T, nlt_F, neq_F, neq_T, if_true, if_false, true_and, and_true, Nat.mul_zero, Nat.zero_add, Nat.add_zero, Nat.reduceAdd, Nat.reduceMul, Nat.reduceSub, li_0, li_1, li_2, li_3, li_4, li_5, li_6, li_7, li_8, li_9, li_10, li_11, li_12, li_13, li_14, li_15, li_16, li_20, li_24, li_28, li_31, li_35, li_38, li_40, li_41, li_45, li_48, li_60, li_62, li_63, li_97, li_100, li_104, li_105, li_120, li_124, li_127, li_180, li_239, li_240, li_255, li_256, li_300, li_400, li_960, li_1000000]
  obtain ⟨b1, s1, r1, r2, r3, r4, r5, r6, r7, r8⟩ := m6_becomes hF hc hff a2 P0
  have top1 : ∀ q, F ≤ q → q < 240 → s1.1 28 q = mI := fun q h1 h2 => by rw [r6 q (by omega)]; exact a5 q (by omega) h2
  -- the end of it, from any state on
  have fin : ∀ (s : St) (b : Bool), KE [28] σ s → s.2 = σ.2 → mtP F (s.1 28) → (∀ q, F ≤ q → q < 240 → s.1 28 q = mI) → (b = true → mtK c p1 p2 f m (nI x) (nI y) (s.1 28)) → (∀ φ, mtG F τ φ → mtK c p1 p2 f m (nI x) (nI y) φ → b = true ∧ mtS F (s.1 28) φ) →
      ∃ (b' : Bool) (s' : St), mX6_saysWithPremises_62 s (zB b) = some (zB b', s') ∧ KE [28] σ s' ∧ s'.2 = σ.2 ∧ mtF F τ b' (s'.1 28) (mtK c p1 p2 f m (nI x) (nI y)) := by
    intro s b k1 k2 k3 k4 k5 k6
    obtain ⟨b', s', w1, w2, w3, w4, w5, w6⟩ := m6_walk hf 240 NF s b (by omega) (by decide) k1 k3 k4 (fun _ q f h1 h2 => by omega)
    have e239 : mX6_saysWithPremises_62 s (zB b) = mX6_saysWithPremises_69 NF s (zB b) (ixD 240) := rfl
    refine ⟨b', s', e239.trans w1, w2, w3.trans k2, fun e => ?_, fun φ y1 y2 => ?_⟩
    · obtain ⟨eb, eg⟩ := w5 e
      obtain ⟨z1, z2, z3⟩ := k5 eb
      refine ⟨⟨w4 c f hc hff z1, fun h0 => ?_, fun h0 => ?_⟩, eg⟩
      · exact w4 p1 x (e23 h0).1 (e23 h0).2.2 (z2 h0)
      · exact w4 p2 y (e24 h0).1 (e24 h0).2.2 (z3 h0)
    · obtain ⟨z1, z2⟩ := k6 φ y1 y2
      exact w6 φ y1 z2 z1
  -- nothing fits
  have no : ∀ (s : St), KE [28] σ s → s.2 = σ.2 → mtP F (s.1 28) → (∀ q, F ≤ q → q < 240 → s.1 28 q = mI) → (∀ φ, mtG F τ φ → mtK c p1 p2 f m (nI x) (nI y) φ → False) →
      ∃ (b' : Bool) (s' : St), mX6_saysWithPremises_61 s = some (zB b', s') ∧ KE [28] σ s' ∧ s'.2 = σ.2 ∧ mtF F τ b' (s'.1 28) (mtK c p1 p2 f m (nI x) (nI y)) :=
    fun s k1 k2 k3 k4 k5 => fin s false k1 k2 k3 k4 (fun h => absurd h (by decide)) (fun φ y1 y2 => (k5 φ y1 y2).elim)
  have yes : ∀ (s : St), KE [28] σ s → s.2 = σ.2 → mtP F (s.1 28) → (∀ q, F ≤ q → q < 240 → s.1 28 q = mI) → mtK c p1 p2 f m (nI x) (nI y) (s.1 28) → (∀ φ, mtG F τ φ → mtK c p1 p2 f m (nI x) (nI y) φ → mtS F (s.1 28) φ) →
      ∃ (b' : Bool) (s' : St), mX6_saysWithPremises_57 s = some (zB b', s') ∧ KE [28] σ s' ∧ s'.2 = σ.2 ∧ mtF F τ b' (s'.1 28) (mtK c p1 p2 f m (nI x) (nI y)) :=
    fun s k1 k2 k3 k4 k5 k6 => fin s true k1 k2 k3 k4 (fun _ => k5) (fun φ y1 y2 => ⟨rfl, k6 φ y1 y2⟩)
  -- the second premise
  have sec : ∀ (s : St), KE [28] σ s → s.2 = σ.2 → mtP F (s.1 28) → (∀ q, F ≤ q → q < 240 → s.1 28 q = mI) → s.1 28 c = nI f → (0 < m → s.1 28 p1 = nI x) → (∀ φ, mtG F τ φ → mtK c p1 p2 f m (nI x) (nI y) φ → mtS F (s.1 28) φ) →
      ∃ (b' : Bool) (s' : St), mX6_saysWithPremises_38 s (nI t) (if 1 < m then nI y else mI) = some (zB b', s') ∧ KE [28] σ s' ∧ s'.2 = σ.2 ∧ mtF F τ b' (s'.1 28) (mtK c p1 p2 f m (nI x) (nI y)) := by
    intro s k1 k2 k3 k4 k5 k6 k7
    by_cases h1 : 1 < m
    · obtain ⟨hp2, q24, hy⟩ := e24 h1
      rw [if_pos h1]
      have w6 : s.1 6 0 = nI T := by rw [k1 6 (by decide)]; exact h6
      have w24 : s.1 24 t = nI p2 := by rw [k1 24 (by decide)]; exact q24
      have e2 : mX6_secondPremise s (nI t) = some (nI p2) := by simp (implicitDefEqProofs := false) (disch := omega) only [mX6_secondPremise, w6, w24, ↓bnd_e, ↓ob_s, ob_s, su_1, su_2, sl_1, sl_2, ↓ck_n, ck_n, ck_Z0, ck_Z1, c_lt, c_le, c_eq, ng_1, m_ne, m_en, m_lt, m_le, m_gt, m_ge, n_add, n_mul, n_sub, n_sm, n_pm, n_0m, n_cl, Nat.reduceEqDiff, ↓reduceIte, nle_T, nle_F, nlt_T, nlt_F, neq_F, neq_T, if_true, if_false, true_and, and_true, Nat.mul_zero, Nat.zero_add, Nat.add_zero, Nat.reduceAdd, Nat.reduceMul, Nat.reduceSub, li_0, li_1, li_2, li_3, li_4, li_5, li_6, li_7, li_8, li_9, li_10, li_11, li_12, li_13, li_14, li_15, li_16, li_20, li_24, li_28, li_31, li_35, li_38, li_40, li_41, li_45, li_48, li_60, li_62, li_63, li_97, li_100, li_104, li_105, li_120, li_124, li_127, li_180, li_239, li_240, li_255, li_256, li_300, li_400, li_960, li_1000000]
      obtain ⟨b3, s3, u1, u2, u3, u4, u5, u6, u7, u8⟩ := m6_becomes hF hp2 hy k1 k3
      have top3 : ∀ q, F ≤ q → q < 240 → s3.1 28 q = mI := fun q h1 h2 => by rw [u6 q (by omega)]; exact k4 q h1 h2
      cases b3
      · obtain ⟨b', s', v1, v2, v3, v4⟩ := no s3 u2 (u3.trans k2) u4 top3 (fun φ y1 y2 => by have := (u8 φ (k7 φ y1 y2) (y2.2.2 h1)).1; exact absurd this (by decide))
        refine ⟨b', s', ?_, v2, v3, v4⟩
        rw [← v1]
        unfold mX6_saysWithPremises_38
        rw [if_neg (show ¬ nI y < 0 from nI_pos (by omega)), e2, ob_s, u1, ob_s]
        dsimp only
        rw [zB_0, if_pos (by decide)]
      · obtain ⟨b', s', v1, v2, v3, v4⟩ := yes s3 u2 (u3.trans k2) u4 top3 ⟨u5 c f hc hff k5, fun h0 => u5 p1 x (e23 h0).1 (e23 h0).2.2 (k6 h0), fun _ => u7 rfl⟩ (fun φ y1 y2 => (u8 φ (k7 φ y1 y2) (y2.2.2 h1)).2)
        refine ⟨b', s', ?_, v2, v3, v4⟩
        rw [← v1]
        unfold mX6_saysWithPremises_38
        rw [if_neg (show ¬ nI y < 0 from nI_pos (by omega)), e2, ob_s, u1, ob_s]
        dsimp only
        rw [zB_1, if_neg (by decide)]
    · rw [if_neg h1]
      obtain ⟨b', s', v1, v2, v3, v4⟩ := yes s k1 k2 k3 k4 ⟨k5, k6, fun h => absurd h h1⟩ k7
      refine ⟨b', s', ?_, v2, v3, v4⟩
      rw [← v1]
      unfold mX6_saysWithPremises_38
      rw [if_pos (by decide)]
  cases b1
  · obtain ⟨b', s', v1, v2, v3, v4⟩ := no s1 r2 (r3.trans a3) r4 top1 (fun φ y1 y2 => by have := (r8 φ (S0 φ) y2.1).1; exact absurd this (by decide))
    refine ⟨b', s', ?_, v2, v3, v4⟩
    rw [← v1]
    unfold mX6_saysWithPremises
    rw [ef, ob_s, ecc, ob_s, r1, ob_s]
    dsimp only
    rw [zB_0, if_pos (by decide)]
  · have e0 : mX6_saysWithPremises σ (nI t) (nI f) (if 0 < m then nI x else mI) (if 1 < m then nI y else mI) = (if (if 0 < m then nI x else mI) < 0 then mX6_saysWithPremises_38 s1 (nI t) (if 1 < m then nI y else mI) else (mX6_firstPremise s1 (nI t)).bind fun r40 => (mX6_becomes s1 r40 (if 0 < m then nI x else mI)).bind fun ⟨r42, s44⟩ => if r42 = 0 then mX6_saysWithPremises_61 s44 else mX6_saysWithPremises_38 s44 (nI t) (if 1 < m then nI y else mI)) := by
      unfold mX6_saysWithPremises
      rw [ef, ob_s, ecc, ob_s, r1, ob_s]
      dsimp only
      rw [zB_1, if_neg (by decide)]
    by_cases h0 : 0 < m
    · obtain ⟨hp1, q23, hx⟩ := e23 h0
      have w6 : s1.1 6 0 = nI T := by rw [r2 6 (by decide)]; exact h6
      have w23 : s1.1 23 t = nI p1 := by rw [r2 23 (by decide)]; exact q23
      have e1 : mX6_firstPremise s1 (nI t) = some (nI p1) := by simp (implicitDefEqProofs := false) (disch := omega) only [mX6_firstPremise, w6, w23, ↓bnd_e, ↓ob_s, ob_s, su_1, su_2, sl_1, sl_2, ↓ck_n, ck_n, ck_Z0, ck_Z1, c_lt, c_le, c_eq, ng_1, m_ne, m_en, m_lt, m_le, m_gt, m_ge, n_add, n_mul, n_sub, n_sm, n_pm, n_0m, n_cl, Nat.reduceEqDiff, ↓reduceIte, nle_T, nle_F, nlt_T, nlt_F, neq_F, neq_T, if_true, if_false, true_and, and_true, Nat.mul_zero, Nat.zero_add, Nat.add_zero, Nat.reduceAdd, Nat.reduceMul, Nat.reduceSub, li_0, li_1, li_2, li_3, li_4, li_5, li_6, li_7, li_8, li_9, li_10, li_11, li_12, li_13, li_14, li_15, li_16, li_20, li_24, li_28, li_31, li_35, li_38, li_40, li_41, li_45, li_48, li_60, li_62, li_63, li_97, li_100, li_104, li_105, li_120, li_124, li_127, li_180, li_239, li_240, li_255, li_256, li_300, li_400, li_960, li_1000000]
      obtain ⟨b2, s2, u1, u2, u3, u4, u5, u6, u7, u8⟩ := m6_becomes hF hp1 hx r2 r4
      have top2 : ∀ q, F ≤ q → q < 240 → s2.1 28 q = mI := fun q h1 h2 => by rw [u6 q (by omega)]; exact top1 q h1 h2
      rw [e0]
      have ex : (if 0 < m then nI x else mI) = nI x := if_pos h0
      rw [ex, if_neg (show ¬ nI x < 0 from nI_pos (by omega)), e1, ob_s, u1, ob_s]
      dsimp only
      cases b2
      · rw [zB_0, if_pos (by decide)]
        exact no s2 u2 (u3.trans (r3.trans a3)) u4 top2 (fun φ y1 y2 => by have := (u8 φ (r8 φ (S0 φ) y2.1).2 (y2.2.1 h0)).1; exact absurd this (by decide))
      · rw [zB_1, if_neg (by decide)]
        exact sec s2 u2 (u3.trans (r3.trans a3)) u4 top2 (u5 c f hc hff (r7 rfl)) (fun _ => u7 rfl) (fun φ y1 y2 => (u8 φ (r8 φ (S0 φ) y2.1).2 (y2.2.1 h0)).2)
    · rw [e0]
      have ex : (if 0 < m then nI x else mI) = mI := if_neg h0
      rw [ex, if_pos (by decide)]
      exact sec s1 r2 (r3.trans a3) r4 top1 (r7 rfl) (fun h => absurd h h0) (fun φ y1 y2 => (r8 φ (S0 φ) y2.1).2)
/-- the reference: likewise -/
theorem gives_m {F T : Nat} {σ τ : St} (hf : RF F σ τ) (hT : T ≤ 16) {t c p1 p2 f m x y b c' : Nat} (ht : t < T) (hc : c < F) (hff : f < F) (hm : m ≤ 2) (e29 : τ.1 29 t = nI c) (e30 : τ.1 30 t = nI m)
    (e31 : 0 < m → p1 < F ∧ τ.1 31 (2 * t) = nI p1 ∧ x < F ∧ b < 60 ∧ τ.1 21 b = nI x) (e32 : 1 < m → p2 < F ∧ τ.1 31 (2 * t + 1) = nI p2 ∧ y < F ∧ c' < 60 ∧ τ.1 21 c' = nI y) (bb cc : Int32) (ebb : 0 < m → bb = nI b) (ecc : 1 < m → cc = nI c') :
    ∃ (r : Bool) (t' : St), mX8_theoremGives τ (nI f) (nI t) bb cc = some (zB r, t') ∧ KE [39] τ t' ∧ mtF F τ r (t'.1 39) (mtK c p1 p2 f m (nI x) (nI y)) := by
  have hF := hf.le
  obtain ⟨t0, a1, a2, _, a5⟩ := clear_l hF F 0 NF τ (by omega) (by show F < 1000; omega) hf.1.2.2
  have ef : mX8_clearStands τ = some t0 := a1
  have G0 : mtG F τ (t0.1 39) := ⟨fun p hp => Or.inl (a5 p (by omega) hp), fun p f hp hf e => by rw [a5 p (by omega) hp, m_en (by omega)] at e; exact e.elim⟩
  have S0 : ∀ φ, mtS F (t0.1 39) φ := fun φ p f hp hf e => by rw [a5 p (by omega) hp, m_en (by omega)] at e; exact e.elim
  obtain ⟨r1, t1, u1, u2, u3, u4, _, u6, u7⟩ := m8_becomes hf 256 c f t0 hc hff (by omega) a2 G0
  have e0 : mX8_theoremGives τ (nI f) (nI t) bb cc = (if zB r1 = 0 then mX8_theoremGives_51 t1 (nI t) cc (zB r1) else if nI m ≤ 0 then mX8_theoremGives_51 t1 (nI t) cc (zB r1) else chkI (2 * nI t) 32 (chkI bb 60 ((mX8_becomes t1 (t1.1 31 (2 * nI t).toNatClampNeg) (t1.1 21 bb.toNatClampNeg)).bind fun ⟨r17, s19⟩ => mX8_theoremGives_51 s19 (nI t) cc r17))) := by
    have w29 : t0.1 29 t = nI c := by rw [a2 29 (by decide)]; exact e29
    have w30 : t1.1 30 t = nI m := by rw [u2 30 (by decide)]; exact e30
    unfold mX8_theoremGives
    rw [ef, ob_s, ck_n _ (by omega) (by omega), n_cl (by omega), w29]
    have u1' : mX8_becomes t0 (nI c) (nI f) = some (zB r1, t1) := u1
    rw [u1', ob_s]
    dsimp only
    rw [ck_n _ (by omega) (by omega), w30]
  have g51 : ∀ (s : St) (r : Bool), KE [39] τ s → mX8_theoremGives_51 s (nI t) cc (zB r) = (if r = true ∧ 1 < m then (mX8_becomes s (nI p2) (nI y)).bind fun ⟨r7, s9⟩ => chkZ r7 (some (r7, s9)) else some (zB r, s)) := by
    intro s r k1
    have w30 : s.1 30 t = nI m := by rw [k1 30 (by decide)]; exact e30
    unfold mX8_theoremGives_51
    cases r
    · rw [zB_0, if_pos (by decide), if_neg (fun h => absurd h.1 (by decide))]; rfl
    · rw [zB_1, if_neg (by decide), ck_n _ (by omega) (by omega), n_cl (by omega), w30, show (1 : Int32) = nI 1 from rfl]
      by_cases h1 : 1 < m
      · obtain ⟨hp2, q31, hy, hc60, q21⟩ := e32 h1
        rw [if_neg (by rw [c_le (by omega) (by omega)]; omega), if_pos ⟨rfl, h1⟩]
        have e2 : (2 : Int32) * nI t = nI (2 * t) := pk_mul 2 t
        have w31 : s.1 31 (2 * t + 1) = nI p2 := by rw [k1 31 (by decide)]; exact q31
        have w21 : s.1 21 c' = nI y := by rw [k1 21 (by decide)]; exact q21
        rw [e2, n_add, ck_n _ (by omega) (by omega), ecc h1, ck_n _ hc60 (by omega), n_cl (by omega), n_cl (by omega), w31, w21]
      · rw [if_pos (by rw [c_le (by omega) (by omega)]; omega), if_neg (fun h => h1 h.2)]; rfl
  rw [e0]
  cases r1
  · rw [if_pos (by decide), g51 t1 false u2, if_neg (fun h => absurd h.1 (by decide))]
    exact ⟨false, t1, rfl, u2, fun h => absurd h (by decide), fun φ y1 y2 => by have := (u7 φ y1 (S0 φ) y2.1).1; exact absurd this (by decide)⟩
  · rw [if_neg (by decide), show (0 : Int32) = nI 0 from rfl]
    -- the end of it
    have fin : ∀ (s : St) (r : Bool), KE [39] τ s → mtG F τ (s.1 39) → (r = true → s.1 39 c = nI f ∧ (0 < m → s.1 39 p1 = nI x)) → (∀ φ, mtG F τ φ → mtK c p1 p2 f m (nI x) (nI y) φ → r = true ∧ mtS F (s.1 39) φ) →
        ∃ (r' : Bool) (t' : St), mX8_theoremGives_51 s (nI t) cc (zB r) = some (zB r', t') ∧ KE [39] τ t' ∧ mtF F τ r' (t'.1 39) (mtK c p1 p2 f m (nI x) (nI y)) := by
      intro s r k1 k2 k3 k4
      rw [g51 s r k1]
      by_cases h1 : r = true ∧ 1 < m
      · obtain ⟨rfl, h1⟩ := h1
        obtain ⟨hp2, q31, hy, hc60, q21⟩ := e32 h1
        rw [if_pos ⟨rfl, h1⟩]
        obtain ⟨r3, t3, v1, v2, v3, v4, _, v6, v7⟩ := m8_becomes hf 256 p2 y s hp2 hy (by omega) k1 k2
        refine ⟨r3, t3, ?_, v2, fun e => ⟨⟨v4 c f hc hff (k3 rfl).1, fun h0 => v4 p1 x (e31 h0).1 (e31 h0).2.2.1 ((k3 rfl).2 h0), fun _ => v6 e⟩, v3⟩, fun φ y1 y2 => v7 φ y1 (k4 φ y1 y2).2 (y2.2.2 h1)⟩
        have v1' : mX8_becomes s (nI p2) (nI y) = some (zB r3, t3) := v1
        rw [v1', ob_s]
        exact ck_zB r3 _
      · rw [if_neg h1]
        refine ⟨r, s, rfl, k1, fun e => ⟨⟨(k3 e).1, (k3 e).2, fun h2 => absurd ⟨e, h2⟩ h1⟩, k2⟩, k4⟩
    by_cases h0 : 0 < m
    · obtain ⟨hp1, q31, hx, hb60, q21⟩ := e31 h0
      rw [if_neg (by rw [c_le (by omega) (by omega)]; omega)]
      have e2 : (2 : Int32) * nI t = nI (2 * t) := pk_mul 2 t
      have w31 : t1.1 31 (2 * t) = nI p1 := by rw [u2 31 (by decide)]; exact q31
      have w21 : t1.1 21 b = nI x := by rw [u2 21 (by decide)]; exact q21
      rw [e2, ck_n _ (by omega) (by omega), ebb h0, ck_n _ hb60 (by omega), n_cl (by omega), n_cl (by omega), w31, w21]
      obtain ⟨r2, t2, v1, v2, v3, v4, _, v6, v7⟩ := m8_becomes hf 256 p1 x t1 hp1 hx (by omega) u2 u3
      have v1' : mX8_becomes t1 (nI p1) (nI x) = some (zB r2, t2) := v1
      rw [v1', ob_s]
      exact fin t2 r2 v2 v3 (fun e => ⟨v4 c f hc hff (u6 rfl), fun _ => v6 e⟩) (fun φ y1 y2 => v7 φ y1 (u7 φ y1 (S0 φ) y2.1).2 (y2.2.1 h0))
    · rw [if_pos (by rw [c_le (by omega) (by omega)]; omega)]
      exact fin t1 true u2 u3 (fun _ => ⟨u6 rfl, fun h => absurd h h0⟩) (fun φ y1 y2 => ⟨rfl, (u7 φ y1 (S0 φ) y2.1).2⟩)
