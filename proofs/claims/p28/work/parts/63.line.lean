theorem Hist.k {F T n L B O : Nat} {inn : Int32} {τ τ' : St} {e : Nat → Int32} {m : List Nat} (h : Hist F T τ.1 n L B O inn e) (hT : T ≤ 16) (kτ : KE m τ τ') (hτ : ∀ c, c ∈ [21, 22, 23, 24, 25, 27, 28, 30] → c ∉ m) : Hist F T τ'.1 n L B O inn e :=
  Hist.c hT (Nat.le_refl _) _ _ _ _ _ _ _ h ⟨fun k hk => ⟨by rw [kτ 21 (hτ _ (by decide))], by rw [kτ 22 (hτ _ (by decide))], by rw [kτ 24 (hτ _ (by decide))], fun w hw => by rw [kτ 23 (hτ _ (by decide))]⟩, fun b hb => ⟨by rw [kτ 25 (hτ _ (by decide))], by rw [kτ 27 (hτ _ (by decide))]⟩, fun i hi => by rw [kτ 28 (hτ _ (by decide))], fun t ht => by rw [kτ 30 (hτ _ (by decide))]⟩ (fun b _ => rfl)
theorem Inv.k {F T L B O : Nat} {inn : Int32} {τ τ' : St} {e : Nat → Int32} {m : List Nat} (h : Inv F T L B O inn τ.1 e) (hT : T ≤ 16) (kτ : KE m τ τ') (hτ : ∀ c, c ∈ [21, 22, 23, 24, 25, 27, 28, 30] → c ∉ m) : Inv F T L B O inn τ'.1 e :=
  h.c hT (Nat.le_refl _) (n := 0) ⟨fun k hk => ⟨by rw [kτ 21 (hτ _ (by decide))], by rw [kτ 22 (hτ _ (by decide))], by rw [kτ 24 (hτ _ (by decide))], fun w hw => by rw [kτ 23 (hτ _ (by decide))]⟩, fun b hb => ⟨by rw [kτ 25 (hτ _ (by decide))], by rw [kτ 27 (hτ _ (by decide))]⟩, fun i hi => by rw [kτ 28 (hτ _ (by decide))], fun t ht => by rw [kτ 30 (hτ _ (by decide))]⟩ (fun b _ => rfl)
def r3 (a b c : Int32) (w : Nat) : Int32 := if w = 0 then a else if w = 1 then b else c
theorem inn_box {F T L B O : Nat} {inn : Int32} {g : Nat → Nat → Int32} {e : Nat → Int32} (h : Inv F T L B O inn g e) : inn = mI ∨ ∃ b, b < B ∧ inn = nI b := by
  obtain ⟨_, _, _, ⟨d, _, d2⟩, _⟩ := h
  rcases d2 with ⟨x, _⟩ | ⟨b, x1, x2, _⟩
  · exact Or.inl x
  · exact Or.inr ⟨b, x1, x2⟩
theorem GA_add {T n L B : Nat} {τ τ' : St} {f r x y z i : Int32} {k : Nat} (t1 : KE kB τ τ') (t21 : τ'.1 21 = upd (τ.1 21) L f) (t22 : τ'.1 22 = upd (τ.1 22) L r)
    (t23 : τ'.1 23 = upd (upd (upd (τ.1 23) (3 * L) x) (3 * L + 1) y) (3 * L + 2) z) (t24 : τ'.1 24 = upd (τ.1 24) L i) (t28 : τ'.1 28 = upd (τ.1 28) n (nI k)) : GA T n L B τ.1 τ'.1 := by
  refine ⟨fun k hk => ⟨by rw [t21, pk_un (by omega)], by rw [t22, pk_un (by omega)], by rw [t24, pk_un (by omega)], fun w hw => by rw [t23, pk_un (by omega), pk_un (by omega), pk_un (by omega)]⟩, fun b hb => ⟨by rw [t1 25 (by decide)], by rw [t1 27 (by decide)]⟩, fun i hi => by rw [t28, pk_un (by omega)], fun t ht => by rw [t1 30 (by decide)]⟩
theorem line_rel {F T L B n O r m : Nat} {σ τ : St} {a b c : Int32} {f : Nat} (hT : T ≤ 16) (hf : f < F) (hL : L < 60) (hr : r ≤ 15) (h14 : r ≠ 14)
    (a8 : σ.1 8 0 = nI L) (a6 : τ.1 6 0 = nI L) (a1 : σ.1 9 0 = nI B) (a2 : τ.1 7 0 = nI B) (a7 : σ.1 7 0 = nI n) (a9 : τ.1 9 0 = nI n) (a3 : σ.1 10 0 = nI O) (a4 : σ.1 11 0 = τ.1 8 0)
    (b1 : σ.1 29 = τ.1 21 ∧ σ.1 30 = τ.1 22 ∧ σ.1 31 = τ.1 23 ∧ σ.1 33 = τ.1 24 ∧ σ.1 36 = τ.1 25 ∧ σ.1 37 = τ.1 26 ∧ σ.1 38 = τ.1 27)
    (c1 : ∀ i, i < n → DR (σ.1 35 i) (τ.1 28 i))
    (d1 : ∀ k, k < L → ∀ r, r ≤ 15 → τ.1 22 k = nI r → ∀ w, w < 3 → σ.1 32 (3 * k + w) = nI (kdN τ.1 r (τ.1 23 (3 * k)).toNatClampNeg w))
    (hH : Hist F T τ.1 n L B O (τ.1 8 0) (τ.1 26))
    (hm : r = 13 → (∃ t, t < T ∧ a = nI t ∧ m ≤ 2 ∧ τ.1 30 t = nI m) ∧ mX6_premises σ a = some (nI m))
    (hp : r = 15 → L < 2 ∧ ∀ j, j < L → τ.1 22 j = nI 15)
    (hrf : ∀ w, w < 3 → (kdM r m w = 1 → ∃ j, j < L ∧ r3 a b c w = nI j) ∧ (kdM r m w = 2 → ∃ b', b' < B ∧ r3 a b c w = nI b' ∧ ∃ j, j < L ∧ τ.1 26 b' = nI j)) :
    ∃ σ' τ', mX3_add σ (nI f) (nI r) a b c = some (nI L, σ') ∧ mX8_add τ (nI f) (nI r) (zr (kdM r m 0) a) (zr (kdM r m 1) b) (zr (kdM r m 2) c) = some (nI L, τ') ∧
      KE kA σ σ' ∧ KE kB τ τ' ∧ σ'.2 = σ.2 ∧ RV F T σ' τ' := by
  have hI := hH.inv
  have hn := Hist.n _ _ _ _ _ _ hH
  have hBL := hI.1.2.1
  obtain ⟨σ', x1, x2, x3, x4, x5, x6, x7, x8, x9, x10, x11⟩ := x3_add (m := m) hL (by omega) a8 a7 hr (fun h => ⟨by obtain ⟨⟨t, _, _, h2, _⟩, _⟩ := hm h; exact h2, (hm h).2⟩) (nI f) b c
  obtain ⟨τ', y1, y2, y3, y4, y5, y6, y7, y8, y9⟩ := x8_add hL (by omega) a6 a9 (nI f) (nI r) (zr (kdM r m 0) a) (zr (kdM r m 1) b) (zr (kdM r m 2) c)
  have hg : GA T n L B τ.1 τ'.1 := GA_add y2 y5 y6 y7 y8 y9
  have hnew : LK F T (L + 1) B τ'.1 (τ.1 26) L := by
    refine ⟨⟨f, hf, by rw [y5, pk_us]⟩, ?_, r, hr, by rw [y6, pk_us], fun h13 => ?_, fun w hw => ?_⟩
    · rw [y8, pk_us]; exact inn_box hI
    · obtain ⟨⟨t, t1, t2, _⟩, _⟩ := hm h13
      subst h13
      exact ⟨t, t1, by rw [y7, pk_un (by omega), pk_un (by omega), pk_us]; exact t2⟩
    · have e23 : τ'.1 23 (3 * L) = zr (kdM r m 0) a := by rw [y7, pk_un (by omega), pk_un (by omega), pk_us]
      have eN : kdN τ'.1 r (τ'.1 23 (3 * L)).toNatClampNeg w = kdM r m w := by
        rw [e23]
        unfold kdN kdM
        by_cases h13 : r = 13
        · obtain ⟨⟨t, t1', t3', t4', t5'⟩, _⟩ := hm h13
          subst h13
          rw [if_pos rfl, if_pos rfl, if_pos rfl, if_pos rfl, t3']
          have : (zr 3 (nI t)).toNatClampNeg = t := n_cl (by omega)
          rw [this, y2 30 (by decide), t5', n_cl (by omega)]
        · rw [if_neg h13, if_neg h13]
      have ew : τ'.1 23 (3 * L + w) = zr (kdM r m w) (r3 a b c w) := by
        have hw3 : w = 0 ∨ w = 1 ∨ w = 2 := by omega
        rcases hw3 with rfl | rfl | rfl
        · rw [Nat.add_zero, e23]; rfl
        · rw [y7, pk_un (by omega), pk_us]; rfl
        · rw [y7, pk_us]; rfl
      rw [eN, ew]
      refine ⟨fun h1 => ?_, fun h2 => ?_⟩
      · obtain ⟨j, j1, j2⟩ := (hrf w hw).1 h1
        exact ⟨j, by omega, by unfold zr; rw [if_neg (by omega)]; exact j2⟩
      · obtain ⟨b', q1, q2, j, j1, j2⟩ := (hrf w hw).2 h2
        exact ⟨b', q1, by unfold zr; rw [if_neg (by omega)]; exact q2, j, by omega, j2⟩
  have hH' := hH.line hT hL hg hnew (fun h => by
    rw [y6, pk_us, c_eq (by omega) (by omega)] at h
    exact hp h) (by rw [y6, pk_us]; intro h; rw [c_eq (by omega) (by omega)] at h; exact h14 h) (by rw [y9, pk_us])
  refine ⟨σ', τ', x1, y1, x2, y2, x3, RV_add hL hr a1 a2 a3 a4 b1 c1 d1 (fun h => ?_) x2 x4 x5 x6 x7 x8 x9 x10 x11 y2 y3 y4 y5 y6 y7 y8 y9 ?_⟩
  · obtain ⟨⟨t, t1, t2, t3, t4⟩, _⟩ := hm h
    exact ⟨t, t1, hT, t2, t3, t4⟩
  · rw [y2 8 (by decide), y2 26 (by decide)]; exact hH'
def kAll : List Nat := 0 :: kB
theorem RR_line {F T : Nat} {σ τ σ' τ' : St} (hf : RF F σ τ) (ht : RT σ τ) (hp : RP σ τ) (hh : RH F T σ τ) (kσ : KE kA σ σ') (kτ : KE kAll τ τ') (h2 : σ'.2 = σ.2) (hv : RV F T σ' τ') : RR σ' τ' :=
  ⟨F, T, hf.c (.k kσ (by decide)) h2 (.k kτ (by decide)), ht.c (.k kσ (by decide)) (.k kτ (by decide)), hp.c (.k kσ (by decide)) (.k kτ (by decide)), hh.c (Nat.le_refl _) (.k kσ (by decide)) (.k kτ (by decide)), hv⟩
theorem P_premise {σ τ : St} (h : RR σ τ) (p1 : Int32) : (∃ (r : Int32) (σ' : St) (τ' : St), mX7_premise σ p1 = some (r, σ') ∧ mX8_premise τ p1 = some (r, τ') ∧ τ'.1 0 0 = 0 ∧ RR σ' τ') ∨ (∃ (v : Int32) (σ' : St) (τ' : St), tX7_premise σ p1 = some (3, σ') ∧ mX8_premise τ p1 = some (v, τ') ∧ τ'.1 0 0 = 1 ∧ RR σ' τ') ∨ (∃ (v : Int32) (σ' : St) (τ' : St), tX7_premise σ p1 = some (1, σ') ∧ mX8_premise τ p1 = some (v, τ') ∧ τ'.1 0 0 = 2 ∧ RR σ' τ') := by
  have hR2 := fun v w => RR_thr (RR_thr h v) w
  obtain ⟨F, T, hf, ht, hp, hh, L, B, n, O, ⟨a8, a6, a1, a2, a7, a9, a3, a4⟩, b1, c1, d1, hH⟩ := h
  have h5 := hf.1.2.2
  have hI := hH.inv
  have hL60 := hI.1.1
  obtain ⟨m, hm⟩ := prem_ex hI
  have t5 : (su τ 0 (fun _ => nI 0)).1 5 0 = nI F := h5
  have e3 := x3_prem hL60 a8 b1.2.1 hm
  have e8 := x8_prem (τ := su τ 0 (fun _ => nI 0)) (L := L) (m := m) hL60 a6 hm
  obtain ⟨m2, mL, mk'⟩ := hm
  have u6 : (su τ 0 (fun _ => nI 0)).1 6 0 = nI L := a6
  rcases kn_rel hf p1 with ⟨f, hfF, rfl, k1, k8⟩ | ⟨k1, k8⟩
  · have k8' := k8 _ t5
    by_cases hg : m = L ∧ L < 2
    · obtain ⟨rfl, hL2⟩ := hg
      obtain ⟨σ', τ', y1, y2, y3, y4, y5, y6⟩ := line_rel (σ := σ) (τ := su τ 0 (fun _ => nI 0)) (r := 15) (m := 0) (a := nI 0) (b := nI 0) (c := nI 0) hh.1.1 hfF (by omega) (by omega) (by omega) a8 a6 a1 a2 a7 a9 a3 a4 b1 c1 d1 (hH.k (m := [0]) hh.1.1 (KE.rf.s (by decide)) (by decide))
        (fun h => absurd h (by omega)) (fun _ => ⟨hL2, fun j hj => (mk' j hj).mpr hj⟩) (fun w hw => by
          have hw3 : w = 0 ∨ w = 1 ∨ w = 2 := by omega
          have : kdM 15 0 w = 0 := by rcases hw3 with rfl | rfl | rfl <;> rfl
          rw [this]; exact ⟨fun h => by omega, fun h => by omega⟩)
      refine Or.inl ⟨nI m, σ', τ', ?_, ?_, by rw [y4 0 (by decide)]; rfl, RR_line hf ht hp hh y3 ((KE.rf.s (by decide)).tr (y4.wk (by decide))) y5 y6⟩
      · simp (implicitDefEqProofs := false) (disch := omega) only [mX7_premise, mX3_lineCount, k1, e3, a8, y1, ↓bnd_e, ↓ob_s, ob_s, su_1, su_2, sl_1, sl_2, ↓ck_n, ck_n, ck_Z0, ck_Z1, c_lt, c_le, c_eq, ng_1, m_ne, m_en, m_lt, m_le, m_gt, m_ge, n_add, n_mul, n_sub, n_sm, n_pm, n_0m, n_cl, Nat.reduceEqDiff, ↓reduceIte, nle_T, nle_F, nlt_T, nlt_F, neq_F, neq_T, if_true, if_false, true_and, and_true, Nat.mul_zero, Nat.zero_add, Nat.add_zero, Nat.reduceAdd, Nat.reduceMul, Nat.reduceSub, li_0, li_1, li_2, li_3, li_4, li_5, li_6, li_7, li_8, li_9, li_10, li_11, li_12, li_13, li_14, li_15, li_16, li_20, li_24, li_28, li_31, li_35, li_38, li_40, li_41, li_45, li_48, li_60, li_62, li_63, li_97, li_100, li_104, li_105, li_120, li_124, li_127, li_180, li_239, li_240, li_255, li_256, li_300, li_400, li_960, li_1000000]
      · have z : zr (kdM 15 0 0) (nI 0) = nI 0 := rfl
        have z1 : zr (kdM 15 0 1) (nI 0) = nI 0 := rfl
        have z2 : zr (kdM 15 0 2) (nI 0) = nI 0 := rfl
        rw [z, z1, z2] at y2
        simp (implicitDefEqProofs := false) (disch := omega) only [mX8_premise, k8', e8, u6, y2, ↓bnd_e, ↓ob_s, ob_s, su_1, su_2, sl_1, sl_2, ↓ck_n, ck_n, ck_Z0, ck_Z1, c_lt, c_le, c_eq, ng_1, m_ne, m_en, m_lt, m_le, m_gt, m_ge, n_add, n_mul, n_sub, n_sm, n_pm, n_0m, n_cl, Nat.reduceEqDiff, ↓reduceIte, nle_T, nle_F, nlt_T, nlt_F, neq_F, neq_T, if_true, if_false, true_and, and_true, Nat.mul_zero, Nat.zero_add, Nat.add_zero, Nat.reduceAdd, Nat.reduceMul, Nat.reduceSub, li_0, li_1, li_2, li_3, li_4, li_5, li_6, li_7, li_8, li_9, li_10, li_11, li_12, li_13, li_14, li_15, li_16, li_20, li_24, li_28, li_31, li_35, li_38, li_40, li_41, li_45, li_48, li_60, li_62, li_63, li_97, li_100, li_104, li_105, li_120, li_124, li_127, li_180, li_239, li_240, li_255, li_256, li_300, li_400, li_960, li_1000000]
    · refine Or.inr (Or.inr ⟨nI 0, σ, su (su τ 0 (fun _ => nI 0)) 0 (fun _ => nI 2), ?_, ?_, rfl, hR2 _ _⟩)
      · by_cases hmL : m < L
        · simp (implicitDefEqProofs := false) (disch := omega) only [tX7_premise, mX3_lineCount, k1, e3, a8, ↓bnd_e, ↓ob_s, ob_s, su_1, su_2, sl_1, sl_2, ↓ck_n, ck_n, ck_Z0, ck_Z1, c_lt, c_le, c_eq, ng_1, m_ne, m_en, m_lt, m_le, m_gt, m_ge, n_add, n_mul, n_sub, n_sm, n_pm, n_0m, n_cl, Nat.reduceEqDiff, ↓reduceIte, nle_T, nle_F, nlt_T, nlt_F, neq_F, neq_T, if_true, if_false, true_and, and_true, Nat.mul_zero, Nat.zero_add, Nat.add_zero, Nat.reduceAdd, Nat.reduceMul, Nat.reduceSub, li_0, li_1, li_2, li_3, li_4, li_5, li_6, li_7, li_8, li_9, li_10, li_11, li_12, li_13, li_14, li_15, li_16, li_20, li_24, li_28, li_31, li_35, li_38, li_40, li_41, li_45, li_48, li_60, li_62, li_63, li_97, li_100, li_104, li_105, li_120, li_124, li_127, li_180, li_239, li_240, li_255, li_256, li_300, li_400, li_960, li_1000000]
        · simp (implicitDefEqProofs := false) (disch := omega) only [tX7_premise, mX3_lineCount, k1, e3, a8, ↓bnd_e, ↓ob_s, ob_s, su_1, su_2, sl_1, sl_2, ↓ck_n, ck_n, ck_Z0, ck_Z1, c_lt, c_le, c_eq, ng_1, m_ne, m_en, m_lt, m_le, m_gt, m_ge, n_add, n_mul, n_sub, n_sm, n_pm, n_0m, n_cl, Nat.reduceEqDiff, ↓reduceIte, nle_T, nle_F, nlt_T, nlt_F, neq_F, neq_T, if_true, if_false, true_and, and_true, Nat.mul_zero, Nat.zero_add, Nat.add_zero, Nat.reduceAdd, Nat.reduceMul, Nat.reduceSub, li_0, li_1, li_2, li_3, li_4, li_5, li_6, li_7, li_8, li_9, li_10, li_11, li_12, li_13, li_14, li_15, li_16, li_20, li_24, li_28, li_31, li_35, li_38, li_40, li_41, li_45, li_48, li_60, li_62, li_63, li_97, li_100, li_104, li_105, li_120, li_124, li_127, li_180, li_239, li_240, li_255, li_256, li_300, li_400, li_960, li_1000000]
      · by_cases hmL : m < L
        · simp (implicitDefEqProofs := false) (disch := omega) only [mX8_premise, mX8_premise_38, mX8_no, k8', e8, u6, ↓bnd_e, ↓ob_s, ob_s, su_1, su_2, sl_1, sl_2, ↓ck_n, ck_n, ck_Z0, ck_Z1, c_lt, c_le, c_eq, ng_1, m_ne, m_en, m_lt, m_le, m_gt, m_ge, n_add, n_mul, n_sub, n_sm, n_pm, n_0m, n_cl, Nat.reduceEqDiff, ↓reduceIte, nle_T, nle_F, nlt_T, nlt_F, neq_F, neq_T, if_true, if_false, true_and, and_true, Nat.mul_zero, Nat.zero_add, Nat.add_zero, Nat.reduceAdd, Nat.reduceMul, Nat.reduceSub, li_0, li_1, li_2, li_3, li_4, li_5, li_6, li_7, li_8, li_9, li_10, li_11, li_12, li_13, li_14, li_15, li_16, li_20, li_24, li_28, li_31, li_35, li_38, li_40, li_41, li_45, li_48, li_60, li_62, li_63, li_97, li_100, li_104, li_105, li_120, li_124, li_127, li_180, li_239, li_240, li_255, li_256, li_300, li_400, li_960, li_1000000]
        · simp (implicitDefEqProofs := false) (disch := omega) only [mX8_premise, mX8_premise_38, mX8_no, k8', e8, u6, ↓bnd_e, ↓ob_s, ob_s, su_1, su_2, sl_1, sl_2, ↓ck_n, ck_n, ck_Z0, ck_Z1, c_lt, c_le, c_eq, ng_1, m_ne, m_en, m_lt, m_le, m_gt, m_ge, n_add, n_mul, n_sub, n_sm, n_pm, n_0m, n_cl, Nat.reduceEqDiff, ↓reduceIte, nle_T, nle_F, nlt_T, nlt_F, neq_F, neq_T, if_true, if_false, true_and, and_true, Nat.mul_zero, Nat.zero_add, Nat.add_zero, Nat.reduceAdd, Nat.reduceMul, Nat.reduceSub, li_0, li_1, li_2, li_3, li_4, li_5, li_6, li_7, li_8, li_9, li_10, li_11, li_12, li_13, li_14, li_15, li_16, li_20, li_24, li_28, li_31, li_35, li_38, li_40, li_41, li_45, li_48, li_60, li_62, li_63, li_97, li_100, li_104, li_105, li_120, li_124, li_127, li_180, li_239, li_240, li_255, li_256, li_300, li_400, li_960, li_1000000]
  · have k8' := k8 _ t5
    refine Or.inr (Or.inl ⟨nI 0, σ, su (su τ 0 (fun _ => nI 0)) 0 (fun _ => nI 1), ?_, ?_, rfl, hR2 _ _⟩)
    · simp (implicitDefEqProofs := false) (disch := omega) only [tX7_premise, k1, ↓bnd_e, ↓ob_s, ob_s, su_1, su_2, sl_1, sl_2, ↓ck_n, ck_n, ck_Z0, ck_Z1, c_lt, c_le, c_eq, ng_1, m_ne, m_en, m_lt, m_le, m_gt, m_ge, n_add, n_mul, n_sub, n_sm, n_pm, n_0m, n_cl, Nat.reduceEqDiff, ↓reduceIte, nle_T, nle_F, nlt_T, nlt_F, neq_F, neq_T, if_true, if_false, true_and, and_true, Nat.mul_zero, Nat.zero_add, Nat.add_zero, Nat.reduceAdd, Nat.reduceMul, Nat.reduceSub, li_0, li_1, li_2, li_3, li_4, li_5, li_6, li_7, li_8, li_9, li_10, li_11, li_12, li_13, li_14, li_15, li_16, li_20, li_24, li_28, li_31, li_35, li_38, li_40, li_41, li_45, li_48, li_60, li_62, li_63, li_97, li_100, li_104, li_105, li_120, li_124, li_127, li_180, li_239, li_240, li_255, li_256, li_300, li_400, li_960, li_1000000]
    · simp (implicitDefEqProofs := false) (disch := omega) only [mX8_premise, mX8_no, k8', ↓bnd_e, ↓ob_s, ob_s, su_1, su_2, sl_1, sl_2, ↓ck_n, ck_n, ck_Z0, ck_Z1, c_lt, c_le, c_eq, ng_1, m_ne, m_en, m_lt, m_le, m_gt, m_ge, n_add, n_mul, n_sub, n_sm, n_pm, n_0m, n_cl, Nat.reduceEqDiff, ↓reduceIte, nle_T, nle_F, nlt_T, nlt_F, neq_F, neq_T, if_true, if_false, true_and, and_true, Nat.mul_zero, Nat.zero_add, Nat.add_zero, Nat.reduceAdd, Nat.reduceMul, Nat.reduceSub, li_0, li_1, li_2, li_3, li_4, li_5, li_6, li_7, li_8, li_9, li_10, li_11, li_12, li_13, li_14, li_15, li_16, li_20, li_24, li_28, li_31, li_35, li_38, li_40, li_41, li_45, li_48, li_60, li_62, li_63, li_97, li_100, li_104, li_105, li_120, li_124, li_127, li_180, li_239, li_240, li_255, li_256, li_300, li_400, li_960, li_1000000]
