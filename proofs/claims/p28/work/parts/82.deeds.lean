theorem UN.of {F T L B n O m : Nat} {σ σ' : St} (h0 : GI F T L B n O m σ) (kσ : KE kP σ σ') (h2 : σ'.2 = σ.2) (hl : ∀ k, k < L → σ'.1 29 k = σ.1 29 k ∧ σ'.1 30 k = σ.1 30 k ∧ σ'.1 33 k = σ.1 33 k) (hr : ∀ p, p < 3 * L → σ'.1 31 p = σ.1 31 p ∧ σ'.1 32 p = σ.1 32 p) (hb : ∀ b, b < B → σ'.1 36 b = σ.1 36 b ∧ σ'.1 38 b = σ.1 38 b)
    (key : ∀ s, SC σ' s → ∃ u t, mX7_undo s = some (nI L, u) ∧ KE [7, 8, 9, 10, 11, 37] s u ∧ u.2 = s.2 ∧ (∀ b, b < B → u.1 37 b = σ.1 37 b) ∧ QV F T L B n O u t) : UN F T L B n O m σ σ' := by
  intro s hs
  obtain ⟨u, t, e, ku, u2, hu, q'⟩ := key s hs
  obtain ⟨τ, q, _⟩ := id h0
  have k2 : ∀ c, c ∈ [29, 30, 31, 32, 33, 36, 38] → u.1 c = σ'.1 c := fun c hc => by
    rw [ku c (by intro hc2; revert hc2; revert c; decide), hs.1 c (by intro hc2; revert hc2; revert c; decide)]
  have kk : KE kP σ u := (kσ.tr (hs.1.wk (by decide))).tr (ku.wk (by decide))
  have uu : u.2 = σ.2 := u2.trans (hs.2.trans h2)
  have hl' : ∀ k, k < L → u.1 29 k = σ.1 29 k ∧ u.1 30 k = σ.1 30 k ∧ u.1 33 k = σ.1 33 k := fun k hk => by
    rw [k2 29 (by decide), k2 30 (by decide), k2 33 (by decide)]; exact hl k hk
  have hb' : ∀ b, b < B → u.1 36 b = σ.1 36 b ∧ u.1 37 b = σ.1 37 b ∧ u.1 38 b = σ.1 38 b := fun b hbB => by
    rw [k2 36 (by decide), k2 38 (by decide)]; exact ⟨(hb b hbB).1, hu b hbB, (hb b hbB).2⟩
  have hr' : ∀ p, p < 3 * L → u.1 31 p = σ.1 31 p ∧ u.1 32 p = σ.1 32 p := fun p hp => by
    rw [k2 31 (by decide), k2 32 (by decide)]; exact hr p hp
  refine ⟨u, e, h0.mv q' kk uu hl' hb', kk, uu, fun M hM h5 => ?_⟩
  exact q.lv q' rfl (by rw [q.vv.1.2.2.2.2.1, q'.vv.1.2.2.2.2.1]) hM h5 (by rw [kk 5 (by decide)]) (by rw [kk 1 (by decide)]) (kk 12 (by decide)) (kk 13 (by decide)) (kk 14 (by decide)) (kk 19 (by decide))
    (fun c hc => kk c (by intro hc2; revert hc2; revert c; decide)) hl' hr' hb'
theorem QV.kn {F T L B n O f : Nat} {σ τ : St} (h : QV F T L B n O σ τ) (hf : f < F) : mX1_isKnown σ (nI f) = some (nI 1) := by
  have h0 := h.1.1.2.1
  have hF := h.1.le
  simp (implicitDefEqProofs := false) (disch := omega) only [mX1_isKnown, h0, ↓bnd_e, ↓ob_s, ob_s, su_1, su_2, sl_1, sl_2, ↓ck_n, ck_n, ck_Z0, ck_Z1, c_lt, c_le, c_eq, ng_1, m_ne, m_en, m_lt, m_le, m_gt, m_ge, n_add, n_mul, n_sub, n_sm, n_pm, n_0m, n_cl, Nat.reduceEqDiff, ↓reduceIte, nle_T, nle_F, nlt_T, nlt_F, neq_F, neq_T, if_true, if_false, true_and, and_true, Nat.mul_zero, Nat.zero_add, Nat.add_zero, Nat.reduceAdd, Nat.reduceMul, Nat.reduceSub, li_0, li_1, li_2, li_3, li_4, li_5, li_6, li_7, li_8, li_9, li_10, li_11, li_12, li_13, li_14, li_15, li_16, li_20, li_24, li_28, li_31, li_35, li_38, li_40, li_41, li_45, li_48, li_60, li_62, li_63, li_97, li_100, li_104, li_105, li_120, li_124, li_127, li_180, li_239, li_240, li_255, li_256, li_300, li_400, li_960, li_1000000]
/-- the last line of a box stays the last -/
theorem CE.l {F T L B O : Nat} {σ τ : St} (h : VV F T L B O σ τ) (ce : CE L B σ) {g : Nat → Int32} (hg : ∀ i, i < L → g i = σ.1 33 i) : ∀ b, b < B → ∀ i, i < L + 1 → σ.1 37 b = nI i → g i = nI b := by
  intro b hb i hi e
  have hL : L ≤ 60 := h.2.2.2.1.1
  rcases (h.2.2.2.2.2.2.2.1 b hb).1 with e2 | ⟨j, hj, e2⟩
  · rw [h.2.1.2.2.2.2.2.1, e2, m_en (by omega)] at e; exact e.elim
  · have e3 := e
    rw [h.2.1.2.2.2.2.2.1, e2, c_eq (by omega) (by omega)] at e3
    subst e3
    rw [hg j hj]
    exact ce b hb j hj e
theorem op_assume {F T L B n O m f : Nat} {σ : St} (h : GI F T L B n O m σ) (hfF : f < F) (hO : O < 6) (hL : L < 60) :
    ∃ σ', mX7_assume σ (nI f) = some (nI L, σ') ∧ GI F T (L + 1) (B + 1) (n + 1) (O + 1) m σ' ∧ UN F T L B n O m σ σ' ∧ KE kP σ σ' ∧ σ'.2 = σ.2 := by
  have h0 := h
  obtain ⟨τ, q, pm, tt, sn, ce⟩ := h
  have k1 := q.kn hfF
  have vv := q.vv
  obtain ⟨hf, ht, hp, hh, ⟨a8, a6, a1, a2, a7, a9, a3, a4⟩, b1, c1, d1, hH⟩ := q
  have hI := hH.inv
  have hL60 := hI.1.1
  have hBL := hI.1.2.1
  have hO6 := hI.1.2.2
  have hnn := Hist.n _ _ _ _ _ _ hH
  obtain ⟨s, es⟩ : ∃ v, v = su (su (su (su (su (su σ 36 (upd (σ.1 36) B (nI L))) 37 (upd (σ.1 37) B mI)) 38 (upd (σ.1 38) B (σ.1 11 0))) 11 (fun _ => nI B)) 9 (fun _ => nI (B + 1))) 10 (fun _ => nI (O + 1)) := ⟨_, rfl⟩
  obtain ⟨t, et⟩ : ∃ v, v = su (su (su (su (su (su τ 0 (fun _ => nI 0)) 27 (upd (τ.1 27) B (τ.1 8 0))) 25 (upd (τ.1 25) B (nI L))) 26 (upd (τ.1 26) B mI)) 8 (fun _ => nI B)) 7 (fun _ => nI (B + 1)) := ⟨_, rfl⟩
  have ks : KE [36, 37, 38, 11, 9, 10] σ s := by rw [es]; exact (((((KE.rf.s (by decide)).s (by decide)).s (by decide)).s (by decide)).s (by decide)).s (by decide)
  have kt : KE [0, 27, 25, 26, 8, 7] τ t := by rw [et]; exact (((((KE.rf.s (by decide)).s (by decide)).s (by decide)).s (by decide)).s (by decide)).s (by decide)
  have s2 : s.2 = σ.2 := by rw [es]; rfl
  have eop : mX3_openBox σ = some s := by
    rw [es]
    simp (implicitDefEqProofs := false) (disch := omega) only [mX3_openBox, mX0_addAt, a8, a1, a3, ↓bnd_e, ↓ob_s, ob_s, su_1, su_2, sl_1, sl_2, ↓ck_n, ck_n, ck_Z0, ck_Z1, c_lt, c_le, c_eq, ng_1, m_ne, m_en, m_lt, m_le, m_gt, m_ge, n_add, n_mul, n_sub, n_sm, n_pm, n_0m, n_cl, Nat.reduceEqDiff, ↓reduceIte, nle_T, nle_F, nlt_T, nlt_F, neq_F, neq_T, if_true, if_false, true_and, and_true, Nat.mul_zero, Nat.zero_add, Nat.add_zero, Nat.reduceAdd, Nat.reduceMul, Nat.reduceSub, li_0, li_1, li_2, li_3, li_4, li_5, li_6, li_7, li_8, li_9, li_10, li_11, li_12, li_13, li_14, li_15, li_16, li_20, li_24, li_28, li_31, li_35, li_38, li_40, li_41, li_45, li_48, li_60, li_62, li_63, li_97, li_100, li_104, li_105, li_120, li_124, li_127, li_180, li_239, li_240, li_255, li_256, li_300, li_400, li_960, li_1000000]
  have s36 : s.1 36 = upd (σ.1 36) B (nI L) := by rw [es]; rfl
  have s37 : s.1 37 = upd (σ.1 37) B mI := by rw [es]; rfl
  have s38 : s.1 38 = upd (σ.1 38) B (σ.1 11 0) := by rw [es]; rfl
  have s11 : s.1 11 0 = nI B := by rw [es]; rfl
  have s9 : s.1 9 0 = nI (B + 1) := by rw [es]; rfl
  have s10 : s.1 10 0 = nI (O + 1) := by rw [es]; rfl
  have t25 : t.1 25 = upd (τ.1 25) B (nI L) := by rw [et]; rfl
  have t26 : t.1 26 = upd (τ.1 26) B mI := by rw [et]; rfl
  have t27 : t.1 27 = upd (τ.1 27) B (τ.1 8 0) := by rw [et]; rfl
  have t8 : t.1 8 0 = nI B := by rw [et]; rfl
  have t7 : t.1 7 0 = nI (B + 1) := by rw [et]; rfl
  obtain ⟨σ', x1, x2, x3, x4, x5, x6, x7, x8, x9, x10, x11⟩ := x3_add (σ := s) (m := 0) (a := nI 0) hL (by omega : n < 120) (by rw [ks 8 (by decide)]; exact a8) (by rw [ks 7 (by decide)]; exact a7) (by omega : 14 ≤ 15) (fun h => absurd h (by omega)) (nI f) (nI 0) (nI 0)
  obtain ⟨τ', y1, y2, y3, y4, y5, y6, y7, y8, y9⟩ := x8_add (τ := t) hL (by omega : n < 120) (by rw [kt 6 (by decide)]; exact a6) (by rw [kt 9 (by decide)]; exact a9) (nI f) (nI 14) (nI 0) (nI 0) (nI 0)
  have kτ : KE ([0, 27, 25, 26, 8, 7] ++ kB) τ τ' := (kt.wk (by decide)).tr (y2.wk (by decide))
  have kσ : KE ([36, 37, 38, 11, 9, 10] ++ kA) σ σ' := (ks.wk (by decide)).tr (x2.wk (by decide))
  have hg : GA T n L B τ.1 τ'.1 := by
    refine ⟨fun k hk => ⟨?_, ?_, ?_, fun w hw => ?_⟩, fun b hb => ⟨?_, ?_⟩, fun i hi => ?_, fun t ht => ?_⟩
    · rw [y5, pk_un (by omega), kt 21 (by decide)]
    · rw [y6, pk_un (by omega), kt 22 (by decide)]
    · rw [y8, pk_un (by omega), kt 24 (by decide)]
    · rw [y7, pk_un (by omega), pk_un (by omega), pk_un (by omega), kt 23 (by decide)]
    · rw [y2 25 (by decide), t25, pk_un (by omega)]
    · rw [y2 27 (by decide), t27, pk_un (by omega)]
    · rw [y9, pk_un (by omega), kt 28 (by decide)]
    · rw [kτ 30 (by decide)]
  have hB := hH.box (f := f) (g' := τ'.1) (e' := τ'.1 26) hh.1.1 hL hO hg (fun b hb => by rw [y2 26 (by decide), t26, pk_un (by omega)]) (by rw [y2 26 (by decide), t26, pk_us]) (by rw [y2 27 (by decide), t27, pk_us]) (by rw [y2 25 (by decide), t25, pk_us]) (by rw [y8, pk_us]; exact t8) (by rw [y6, pk_us]) hfF (by rw [y5, pk_us]) (by rw [y9, pk_us])
  have hRX : RX F T (L + 1) (B + 1) (n + 1) (O + 1) σ' τ' := by
    refine RX_add (σ := s) (τ := t) (B := B + 1) (O := O + 1) (r := 14) (m := 0) (a := nI 0) (b := nI 0) (c := nI 0) (f := nI f) (n := n) hL (by omega) s9 t7 s10 (s11.trans t8.symm) ?_ ?_ ?_ (fun h => absurd h (by omega)) x2 x4 x5 x6 x7 x8 x9 x10 x11 y2 y3 y4 y5 y6 y7 y8 y9 ?_
    · obtain ⟨q1, q2, q3, q4, q5, q6, q7⟩ := b1
      refine ⟨?_, ?_, ?_, ?_, ?_, ?_, ?_⟩
      · rw [ks 29 (by decide), kt 21 (by decide), q1]
      · rw [ks 30 (by decide), kt 22 (by decide), q2]
      · rw [ks 31 (by decide), kt 23 (by decide), q3]
      · rw [ks 33 (by decide), kt 24 (by decide), q4]
      · rw [s36, t25, q5]
      · rw [s37, t26, q6]
      · rw [s38, t27, q7, a4]
    · rw [ks 35 (by decide), kt 28 (by decide)]; exact c1
    · intro k hk r hr h22 w hw
      rw [kt 22 (by decide)] at h22
      rw [ks 32 (by decide), kt 23 (by decide), d1 k hk r hr h22 w hw]
      unfold kdN
      rw [kt 30 (by decide)]
    · rw [y2 8 (by decide), t8]; exact hB
  have q' : QV F T (L + 1) (B + 1) (n + 1) (O + 1) σ' τ' := ⟨hf.c (.k kσ (by decide)) (x3.trans s2) (.k kτ (by decide)), ht.c (.k kσ (by decide)) (.k kτ (by decide)), hp.c (.k kσ (by decide)) (.k kτ (by decide)), hh.c (Nat.le_refl _) (.k kσ (by decide)) (.k kτ (by decide)), hRX⟩
  have z29 : σ'.1 29 = upd (σ.1 29) L (nI f) := by rw [x6, ks 29 (by decide)]
  have z30 : σ'.1 30 = upd (σ.1 30) L (nI 14) := by rw [x7, ks 30 (by decide)]
  have z33 : σ'.1 33 = upd (σ.1 33) L (nI B) := by rw [x10, ks 33 (by decide), s11]
  have z36 : σ'.1 36 = upd (σ.1 36) B (nI L) := by rw [x2 36 (by decide), s36]
  have z37 : σ'.1 37 = upd (σ.1 37) B mI := by rw [x2 37 (by decide), s37]
  have z38 : σ'.1 38 = upd (σ.1 38) B (σ.1 11 0) := by rw [x2 38 (by decide), s38]
  have hl : ∀ k, k < L → σ'.1 29 k = σ.1 29 k ∧ σ'.1 30 k = σ.1 30 k ∧ σ'.1 33 k = σ.1 33 k := fun k hk => by
    rw [z29, z30, z33, pk_un (by omega), pk_un (by omega), pk_un (by omega)]; exact ⟨rfl, rfl, rfl⟩
  have hb : ∀ b, b < B → σ'.1 36 b = σ.1 36 b ∧ σ'.1 38 b = σ.1 38 b := fun b hb => by
    rw [z36, z38, pk_un (by omega), pk_un (by omega)]; exact ⟨rfl, rfl⟩
  have hr : ∀ p, p < 3 * L → σ'.1 31 p = σ.1 31 p ∧ σ'.1 32 p = σ.1 32 p := fun p hp => by
    rw [x8, x9, pk_un (by omega), pk_un (by omega), pk_un (by omega), pk_un (by omega), pk_un (by omega), pk_un (by omega), ks 31 (by decide), ks 32 (by decide)]; exact ⟨rfl, rfl⟩
  have h2 : σ'.2 = σ.2 := x3.trans s2
  have kP' : KE kP σ σ' := kσ.wk (by decide)
  refine ⟨σ', ?_, ⟨τ', q', ?_, tt.c h2 (kσ 12 (by decide)) (kσ 13 (by decide)) (kσ 14 (by decide)), SN.s (sn.c vv.wb vv.wl pm.2.1 h2 (fun k hk => (hl k hk).1) (fun k hk => (hl k hk).2.2) hb) (fun z hz _ hc => ?_), ?_⟩, UN.of h0 kP' h2 hl hr hb (fun u hu => ?_), kP', h2⟩
  · simp (implicitDefEqProofs := false) (disch := omega) only [mX7_assume, mX3_lineCount, mX3_openCount, mX0_open, k1, a3, a8, eop, x1, ↓bnd_e, ↓ob_s, ob_s, su_1, su_2, sl_1, sl_2, ↓ck_n, ck_n, ck_Z0, ck_Z1, c_lt, c_le, c_eq, ng_1, m_ne, m_en, m_lt, m_le, m_gt, m_ge, n_add, n_mul, n_sub, n_sm, n_pm, n_0m, n_cl, Nat.reduceEqDiff, ↓reduceIte, nle_T, nle_F, nlt_T, nlt_F, neq_F, neq_T, if_true, if_false, true_and, and_true, Nat.mul_zero, Nat.zero_add, Nat.add_zero, Nat.reduceAdd, Nat.reduceMul, Nat.reduceSub, li_0, li_1, li_2, li_3, li_4, li_5, li_6, li_7, li_8, li_9, li_10, li_11, li_12, li_13, li_14, li_15, li_16, li_20, li_24, li_28, li_31, li_35, li_38, li_40, li_41, li_45, li_48, li_60, li_62, li_63, li_97, li_100, li_104, li_105, li_120, li_124, li_127, li_180, li_239, li_240, li_255, li_256, li_300, li_400, li_960, li_1000000]
  · refine ⟨pm.1, by have := pm.2.1; omega, fun k hk => ?_⟩
    rw [z30, up_1]
    by_cases e : k = L
    · rw [if_pos e, c_eq (by omega) (by omega)]
      have := pm.2.1
      exact ⟨fun h => absurd h (by omega), fun h => by omega⟩
    · rw [if_neg e]; exact pm.2.2 k (by omega)
  · rw [z33, pk_us, ch_b q'.vv.wb z (show B < B + 1 by omega), z36, pk_us, n_cl (by omega)] at hc
    exact hc.1
  · intro b hb' i hi e
    by_cases eb : b = B
    · subst eb
      rw [z37, pk_us, m_en (by omega)] at e; exact e.elim
    · rw [z37, pk_un eb] at e
      exact CE.l vv ce (g := σ'.1 33) (fun i hi => (hl i hi).2.2) b (by omega) i hi e
  · have qu := q'.k (hu.1.wk (by decide)) hu.2 KE.rf
    obtain ⟨w, τw, e, kw, w2, qw⟩ := un_2 qu (by rw [hu.1 35 (by decide), x11, pk_us]) (by rw [hu.1 30 (by decide), z30, pk_us])
    refine ⟨w, τw, e, kw.wk (by decide), w2, fun b hb' => ?_, qw⟩
    rw [kw 37 (by decide), hu.1 37 (by decide), z37, pk_un (by omega)]
theorem op_premise {F T L B n O f : Nat} {σ : St} (h : GI F T L B n O L σ) (hfF : f < F) (hL2 : L < 2) :
    ∃ σ', mX7_premise σ (nI f) = some (nI L, σ') ∧ GI F T (L + 1) B (n + 1) O (L + 1) σ' ∧ UN F T L B n O L σ σ' ∧ KE kP σ σ' ∧ σ'.2 = σ.2 := by
  have h0 := h
  obtain ⟨τ, q, pm, tt, sn, ce⟩ := h
  have k1 := q.kn hfF
  have vv := q.vv
  have pm2 := q.pm pm
  obtain ⟨hf, ht, hp, hh, ⟨a8, a6, a1, a2, a7, a9, a3, a4⟩, b1, c1, d1, hH⟩ := q
  have e3 := x3_prem (by omega) a8 b1.2.1 pm2
  obtain ⟨σ', τ', y1, y2, y3, y4, y5, y6, z29, z30, zr, z33, z35⟩ := line_rx (σ := σ) (τ := τ) (r := 15) (m := 0) (a := nI 0) (b := nI 0) (c := nI 0) hh.1.1 hfF (by omega) (by omega) (by omega) a8 a6 a1 a2 a7 a9 a3 a4 b1 c1 d1 hH
    (fun h => absurd h (by omega)) (fun _ => ⟨hL2, fun j hj => (pm2.2.2 j hj).mpr hj⟩) (fun w hw => by
      have hw3 : w = 0 ∨ w = 1 ∨ w = 2 := by omega
      have : kdM 15 0 w = 0 := by rcases hw3 with rfl | rfl | rfl <;> rfl
      rw [this]; exact ⟨fun h => by omega, fun h => by omega⟩)
  have q' : QV F T (L + 1) B (n + 1) O σ' τ' := ⟨hf.c (.k y3 (by decide)) y5 (.k y4 (by decide)), ht.c (.k y3 (by decide)) (.k y4 (by decide)), hp.c (.k y3 (by decide)) (.k y4 (by decide)), hh.c (Nat.le_refl _) (.k y3 (by decide)) (.k y4 (by decide)), y6⟩
  have kP' : KE kP σ σ' := y3.wk (by decide)
  have hl : ∀ k, k < L → σ'.1 29 k = σ.1 29 k ∧ σ'.1 30 k = σ.1 30 k ∧ σ'.1 33 k = σ.1 33 k := fun k hk => by
    rw [z29, z30, z33, pk_un (by omega), pk_un (by omega), pk_un (by omega)]; exact ⟨rfl, rfl, rfl⟩
  have hb : ∀ b, b < B → σ'.1 36 b = σ.1 36 b ∧ σ'.1 38 b = σ.1 38 b := fun b _ => by rw [y3 36 (by decide), y3 38 (by decide)]; exact ⟨rfl, rfl⟩
  refine ⟨σ', ?_, ⟨τ', q', ⟨by omega, by omega, fun k hk => ?_⟩, tt.c y5 (y3 12 (by decide)) (y3 13 (by decide)) (y3 14 (by decide)), fun k hk z _ hp _ => hp k hk, ?_⟩, UN.of h0 kP' y5 hl zr hb (fun u hu => ?_), kP', y5⟩
  · simp (implicitDefEqProofs := false) (disch := omega) only [mX7_premise, mX3_lineCount, k1, e3, a8, y1, ↓bnd_e, ↓ob_s, ob_s, su_1, su_2, sl_1, sl_2, ↓ck_n, ck_n, ck_Z0, ck_Z1, c_lt, c_le, c_eq, ng_1, m_ne, m_en, m_lt, m_le, m_gt, m_ge, n_add, n_mul, n_sub, n_sm, n_pm, n_0m, n_cl, Nat.reduceEqDiff, ↓reduceIte, nle_T, nle_F, nlt_T, nlt_F, neq_F, neq_T, if_true, if_false, true_and, and_true, Nat.mul_zero, Nat.zero_add, Nat.add_zero, Nat.reduceAdd, Nat.reduceMul, Nat.reduceSub, li_0, li_1, li_2, li_3, li_4, li_5, li_6, li_7, li_8, li_9, li_10, li_11, li_12, li_13, li_14, li_15, li_16, li_20, li_24, li_28, li_31, li_35, li_38, li_40, li_41, li_45, li_48, li_60, li_62, li_63, li_97, li_100, li_104, li_105, li_120, li_124, li_127, li_180, li_239, li_240, li_255, li_256, li_300, li_400, li_960, li_1000000]
  · rw [z30, up_1]
    by_cases e : k = L
    · rw [if_pos e]; exact ⟨fun _ => by omega, fun _ => rfl⟩
    · rw [if_neg e]
      have := pm.2.2 k (by omega)
      exact ⟨fun _ => by omega, fun _ => this.mpr (by omega)⟩
  · unfold CE
    rw [y3 37 (by decide)]
    exact CE.l vv ce (g := σ'.1 33) (fun i hi => (hl i hi).2.2)
  · have qu := q'.k (hu.1.wk (by decide)) hu.2 KE.rf
    obtain ⟨w, τw, e, kw, w2, qw⟩ := un_1 qu (by rw [hu.1 35 (by decide), z35, pk_us]) (by rw [hu.1 30 (by decide), z30, pk_us]; decide)
    refine ⟨w, τw, e, kw.wk (by decide), w2, fun b hb' => ?_, qw⟩
    rw [kw 37 (by decide), hu.1 37 (by decide), y3 37 (by decide)]
theorem op_close {F T L B n O m : Nat} {σ : St} (h : GI F T L B n (O + 1) m σ) :
    ∃ b σ', mX7_close σ = some (nI b, σ') ∧ GI F T L B (n + 1) O m σ' ∧ UN F T L B n (O + 1) m σ σ' ∧ KE kP σ σ' ∧ σ'.2 = σ.2 := by
  have h0 := h
  obtain ⟨τ, q, pm, tt, sn, ce⟩ := h
  have vv := q.vv
  obtain ⟨hf, ht, hp, hh, ⟨a8, a6, a1, a2, a7, a9, a3, a4⟩, b1, c1, d1, hH⟩ := q
  have hI := hH.inv
  obtain ⟨hL60, hBL, hO6⟩ := hI.1
  have hnn := Hist.n _ _ _ _ _ _ hH
  obtain ⟨d, dd1, dd2⟩ := hI.2.2.2.1
  rcases dd2 with ⟨i1, hO0⟩ | ⟨b, hb, i2, hd, he⟩
  · omega
  · obtain ⟨_, j, j1, j2, j3⟩ := hI.2.2.2.2.1 b hb
    obtain ⟨k0, q1, q2, q3⟩ := last_of (g24 := τ.1 24) (v := nI b) L ⟨j, j1, j3⟩
    obtain ⟨e29, e30, e31, e33, e36, e37, e38⟩ := b1
    have cl : mX3_latestLineOf σ (nI b) = some (nI k0) := by
      have x := x3_last (σ := σ) (L := L) hL60 (by rw [e33]; exact q2) (by rw [e33]; exact q3) L NF q1 (Nat.le_refl _) (by show L < 1000; omega)
      unfold mX3_latestLineOf
      rw [a8, bnd_e]
      have e : (if nI L < (60 : Int32) then nI L else 60) - 1 = ixD L := by
        rw [← ixD_1, show (60 : Int32) = nI 60 from rfl]
        by_cases h : L < 60
        · rw [if_pos (show nI L < nI 60 by rw [c_lt (by omega) (by omega)]; exact h)]
        · have : L = 60 := by omega
          rw [this]; decide
      rw [e]; exact x
    have c11 : σ.1 11 0 = nI b := a4.trans i2
    obtain ⟨σ', es⟩ : ∃ v, v = su (su (su (su (su σ 37 (upd (σ.1 37) b (nI k0))) 11 (fun _ => σ.1 38 b)) 10 (fun _ => nI O)) 35 (upd (σ.1 35) n (nI b))) 7 (fun _ => nI (n + 1)) := ⟨_, rfl⟩
    obtain ⟨τ', et⟩ : ∃ v, v = su (su (su (su τ 26 (upd (τ.1 26) b (nI k0))) 28 (upd (τ.1 28) n (mI - nI b))) 9 (fun _ => nI (n + 1))) 8 (fun _ => τ.1 27 b) := ⟨_, rfl⟩
    have kσ : KE [37, 11, 10, 35, 7] σ σ' := by rw [es]; exact ((((KE.rf.s (by decide)).s (by decide)).s (by decide)).s (by decide)).s (by decide)
    have kτ : KE [26, 28, 9, 8] τ τ' := by rw [et]; exact (((KE.rf.s (by decide)).s (by decide)).s (by decide)).s (by decide)
    have t26 : τ'.1 26 = upd (τ.1 26) b (nI k0) := by rw [et]; rfl
    have t28 : τ'.1 28 = upd (τ.1 28) n (mI - nI b) := by rw [et]; rfl
    have t9 : τ'.1 9 0 = nI (n + 1) := by rw [et]; rfl
    have t8 : τ'.1 8 0 = τ.1 27 b := by rw [et]; rfl
    have s37 : σ'.1 37 = upd (σ.1 37) b (nI k0) := by rw [es]; rfl
    have s35 : σ'.1 35 = upd (σ.1 35) n (nI b) := by rw [es]; rfl
    have s11 : σ'.1 11 0 = σ.1 38 b := by rw [es]; rfl
    have s10 : σ'.1 10 0 = nI O := by rw [es]; rfl
    have s7 : σ'.1 7 0 = nI (n + 1) := by rw [es]; rfl
    have s2 : σ'.2 = σ.2 := by rw [es]; rfl
    have hg : GA T n L B τ.1 τ'.1 := ⟨fun k hk => ⟨by rw [kτ 21 (by decide)], by rw [kτ 22 (by decide)], by rw [kτ 24 (by decide)], fun w hw => by rw [kτ 23 (by decide)]⟩, fun b hb => ⟨by rw [kτ 25 (by decide)], by rw [kτ 27 (by decide)]⟩, fun i hi => by rw [t28, pk_un (by omega)], fun t ht => by rw [kτ 30 (by decide)]⟩
    rw [i2] at hH
    have hS := hH.shut hh.1.1 hb q1 hg t26 (by rw [t28, pk_us])
    have hRX : RX F T L B (n + 1) O σ' τ' := by
      refine ⟨⟨?_, ?_, ?_, ?_, s7, t9, s10, ?_⟩, ⟨?_, ?_, ?_, ?_, ?_, ?_, ?_⟩, fun i hi => ?_, fun k hk r hr h22 w hw => ?_, ?_⟩
      · rw [kσ 8 (by decide)]; exact a8
      · rw [kτ 6 (by decide)]; exact a6
      · rw [kσ 9 (by decide)]; exact a1
      · rw [kτ 7 (by decide)]; exact a2
      · rw [s11, t8, e38]
      · rw [kσ 29 (by decide), kτ 21 (by decide), e29]
      · rw [kσ 30 (by decide), kτ 22 (by decide), e30]
      · rw [kσ 31 (by decide), kτ 23 (by decide), e31]
      · rw [kσ 33 (by decide), kτ 24 (by decide), e33]
      · rw [kσ 36 (by decide), kτ 25 (by decide), e36]
      · rw [s37, t26, e37]
      · rw [kσ 38 (by decide), kτ 27 (by decide), e38]
      · rw [s35, t28, up_1, up_1]
        by_cases e : i = n
        · rw [if_pos e, if_pos e]; exact Or.inr ⟨b, by omega, rfl, rfl⟩
        · rw [if_neg e, if_neg e]; exact c1 i (by omega)
      · rw [kτ 22 (by decide)] at h22
        rw [kσ 32 (by decide), kτ 23 (by decide), d1 k hk r hr h22 w hw]
        unfold kdN
        rw [kτ 30 (by decide)]
      · have e27 : τ'.1 8 0 = τ'.1 27 b := by rw [t8, kτ 27 (by decide)]
        rw [e27]; exact hS
    have q' : QV F T L B (n + 1) O σ' τ' := ⟨hf.c (.k kσ (by decide)) s2 (.k kτ (by decide)), ht.c (.k kσ (by decide)) (.k kτ (by decide)), hp.c (.k kσ (by decide)) (.k kτ (by decide)), hh.c (Nat.le_refl _) (.k kσ (by decide)) (.k kτ (by decide)), hRX⟩
    have kP' : KE kP σ σ' := kσ.wk (by decide)
    have hl : ∀ k, k < L → σ'.1 29 k = σ.1 29 k ∧ σ'.1 30 k = σ.1 30 k ∧ σ'.1 33 k = σ.1 33 k := fun k _ => by rw [kσ 29 (by decide), kσ 30 (by decide), kσ 33 (by decide)]; exact ⟨rfl, rfl, rfl⟩
    have hb2 : ∀ b, b < B → σ'.1 36 b = σ.1 36 b ∧ σ'.1 38 b = σ.1 38 b := fun b _ => by rw [kσ 36 (by decide), kσ 38 (by decide)]; exact ⟨rfl, rfl⟩
    refine ⟨b, σ', ?_, ⟨τ', q', ⟨pm.1, pm.2.1, fun k hk => by rw [(hl k hk).2.1]; exact pm.2.2 k hk⟩, tt.c s2 (kσ 12 (by decide)) (kσ 13 (by decide)) (kσ 14 (by decide)), sn.c vv.wb vv.wl pm.2.1 s2 (fun k hk => (hl k hk).1) (fun k hk => (hl k hk).2.2) hb2, ?_⟩, UN.of h0 kP' s2 hl (fun p _ => by rw [kσ 31 (by decide), kσ 32 (by decide)]; exact ⟨rfl, rfl⟩) hb2 (fun u hu => ?_), kP', s2⟩
    · rw [es]
      simp (implicitDefEqProofs := false) (disch := omega) only [mX7_close, mX3_openCount, mX0_open, mX3_shutBox, mX0_innermost, mX0_shutAt, mX3_noteDeed, a3, c11, cl, a1, a7, Nat.add_sub_cancel, ↓bnd_e, ↓ob_s, ob_s, su_1, su_2, sl_1, sl_2, ↓ck_n, ck_n, ck_Z0, ck_Z1, c_lt, c_le, c_eq, ng_1, m_ne, m_en, m_lt, m_le, m_gt, m_ge, n_add, n_mul, n_sub, n_sm, n_pm, n_0m, n_cl, Nat.reduceEqDiff, ↓reduceIte, nle_T, nle_F, nlt_T, nlt_F, neq_F, neq_T, if_true, if_false, true_and, and_true, Nat.mul_zero, Nat.zero_add, Nat.add_zero, Nat.reduceAdd, Nat.reduceMul, Nat.reduceSub, li_0, li_1, li_2, li_3, li_4, li_5, li_6, li_7, li_8, li_9, li_10, li_11, li_12, li_13, li_14, li_15, li_16, li_20, li_24, li_28, li_31, li_35, li_38, li_40, li_41, li_45, li_48, li_60, li_62, li_63, li_97, li_100, li_104, li_105, li_120, li_124, li_127, li_180, li_239, li_240, li_255, li_256, li_300, li_400, li_960, li_1000000]
    · intro c hc i hi e
      rw [(hl i hi).2.2]
      by_cases ec : c = b
      · subst ec
        rw [s37, pk_us, c_eq (by omega) (by omega)] at e
        subst e
        rw [e33]; exact q2
      · rw [s37, pk_un ec] at e
        exact ce c hc i hi e
    · have qu := q'.k (hu.1.wk (by decide)) hu.2 KE.rf
      obtain ⟨w, τw, e, kw, w2, w37, qw⟩ := un_3 (b0 := b) qu (by omega) (by rw [hu.1 35 (by decide), s35, pk_us])
      refine ⟨w, τw, e, kw.wk (by decide), w2, fun c hc => ?_, qw⟩
      rw [w37, hu.1 37 (by decide), s37, up_1, up_1]
      by_cases ec : c = b
      · rw [if_pos ec, ec, e37]; exact he.symm
      · rw [if_neg ec, if_neg ec]
