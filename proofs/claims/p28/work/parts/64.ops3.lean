theorem feed_63 (t : St) (i n : Nat) (hi : i < 5) : mX8_feed_63 (n + 1) t (nI 5) (nI i) = mX8_feed_80 (mX8_feed_63 n) NF t (nI 5) (nI i) (t.1 42 i) (nI 3) := by
  show bX8_feed_63 (mX8_feed_63 n) t (nI 5) (nI i) = _
  unfold bX8_feed_63
  rw [if_neg (by rw [c_le (by omega) (by omega)]; omega), ck_n _ hi (by omega), bnd_e, n_cl (by omega)]
  rfl
theorem feed_63e (t : St) (n : Nat) : mX8_feed_63 (n + 1) t (nI 5) (nI 5) = some (t.1 1 0, t) := by
  show bX8_feed_63 (mX8_feed_63 n) t (nI 5) (nI 5) = _
  unfold bX8_feed_63
  rw [if_pos (by decide)]
theorem P_feed {σ τ : St} (h : RR σ τ) (p1 p2 p3 p4 p5 : Int32) : (∃ (r : Int32) (σ' : St) (τ' : St), mX7_feed σ p1 p2 p3 p4 p5 = some (r, σ') ∧ mX8_feed τ p1 p2 p3 p4 p5 = some (r, τ') ∧ τ'.1 0 0 = 0 ∧ RR σ' τ') ∨ (∃ (v : Int32) (σ' : St) (τ' : St), tX7_feed σ p1 p2 p3 p4 p5 = some (1, σ') ∧ mX8_feed τ p1 p2 p3 p4 p5 = some (v, τ') ∧ τ'.1 0 0 = 1 ∧ RR σ' τ') := by
  have hR2 := fun v w => RR_thr (RR_thr h v) w
  obtain ⟨F, T, hf, ⟨⟨N, hN, n1, n8⟩, ht2, ht3⟩, hp, hh, hv⟩ := h
  by_cases h20 : N + 20 ≤ 400
  · obtain ⟨t0, et0⟩ : ∃ v, v = su (su (su (su (su (su (su τ 0 (fun _ => nI 0)) 42 (fun _ => nI 0)) 42 (upd (fun _ => nI 0) 0 p1)) 42 (upd (upd (fun _ => nI 0) 0 p1) 1 p2)) 42 (upd (upd (upd (fun _ => nI 0) 0 p1) 1 p2) 2 p3)) 42 (upd (upd (upd (upd (fun _ => nI 0) 0 p1) 1 p2) 2 p3) 3 p4)) 42 (upd (upd (upd (upd (upd (fun _ => nI 0) 0 p1) 1 p2) 2 p3) 3 p4) 4 p5) := ⟨_, rfl⟩
    have k0 : KE [0, 42] τ t0 := by rw [et0]; exact ((((((KE.rf.s (by decide)).s (by decide)).s (by decide)).s (by decide)).s (by decide)).s (by decide)).s (by decide)
    have hb0 : BY σ t0 := fun k => by rw [k0 13 (by decide)]; exact ht3 k
    have t00 : t0.1 0 0 = nI 0 := by rw [et0]; rfl
    have v0 : t0.1 42 0 = p1 := by rw [et0]; rfl
    have v1 : t0.1 42 1 = p2 := by rw [et0]; rfl
    have v2 : t0.1 42 2 = p3 := by rw [et0]; rfl
    have v3 : t0.1 42 3 = p4 := by rw [et0]; rfl
    have v4 : t0.1 42 4 = p5 := by rw [et0]; rfl
    have em : mX8_feed τ p1 p2 p3 p4 p5 = mX8_feed_63 NF t0 (nI 5) (nI 0) := by
      rw [et0]
      simp (implicitDefEqProofs := false) (disch := omega) only [mX8_feed, n8, ↓bnd_e, ↓ob_s, ob_s, su_1, su_2, sl_1, sl_2, ↓ck_n, ck_n, ck_Z0, ck_Z1, c_lt, c_le, c_eq, ng_1, m_ne, m_en, m_lt, m_le, m_gt, m_ge, n_add, n_mul, n_sub, n_sm, n_pm, n_0m, n_cl, Nat.reduceEqDiff, ↓reduceIte, nle_T, nle_F, nlt_T, nlt_F, neq_F, neq_T, if_true, if_false, true_and, and_true, Nat.mul_zero, Nat.zero_add, Nat.add_zero, Nat.reduceAdd, Nat.reduceMul, Nat.reduceSub, li_0, li_1, li_2, li_3, li_4, li_5, li_6, li_7, li_8, li_9, li_10, li_11, li_12, li_13, li_14, li_15, li_16, li_20, li_24, li_28, li_31, li_35, li_38, li_40, li_41, li_45, li_48, li_60, li_62, li_63, li_97, li_100, li_104, li_105, li_120, li_124, li_127, li_180, li_239, li_240, li_255, li_256, li_300, li_400, li_960, li_1000000]
    have n80 : t0.1 1 0 = nI N := by rw [k0 1 (by decide)]; exact n8
    clear et0
    obtain ⟨s1, t1, a1, a2, a3, a4, a5, a6, a7, a8⟩ := app_rel (by omega) n1 n80 hb0 p1
    obtain ⟨s2, t2, b1, b2, b3, b4, b5, b6, b7, b8⟩ := app_rel (by omega) a5 a6 a7 p2
    obtain ⟨s3, t3, c1, c2, c3, c4, c5, c6, c7, c8⟩ := app_rel (by omega) b5 b6 b7 p3
    obtain ⟨s4, t4, d1, d2, d3, d4, d5, d6, d7, d8⟩ := app_rel (by omega) c5 c6 c7 p4
    obtain ⟨s5, t5, e1, e2, e3, e4, e5, e6, e7, e8⟩ := app_rel (by omega) d5 d6 d7 p5
    have kσ : KE [1, 18] σ s5 := (((a2.tr b2).tr c2).tr d2).tr e2
    have kt : KE [1, 13] t0 t5 := (((a3.tr b3).tr c3).tr d3).tr e3
    have kτ : KE [0, 42, 1, 13] τ t5 := (k0.wk (by decide)).tr (kt.wk (by decide))
    have h2 : s5.2 = σ.2 := e4.trans (d4.trans (c4.trans (b4.trans a4)))
    have w1 : t1.1 42 1 = p2 := by rw [a3 42 (by decide)]; exact v1
    have w2 : t2.1 42 2 = p3 := by rw [b3 42 (by decide), a3 42 (by decide)]; exact v2
    have w3 : t3.1 42 3 = p4 := by rw [c3 42 (by decide), b3 42 (by decide), a3 42 (by decide)]; exact v3
    have w4 : t4.1 42 4 = p5 := by rw [d3 42 (by decide), c3 42 (by decide), b3 42 (by decide), a3 42 (by decide)]; exact v4
    have e63 : mX8_feed_63 NF t0 (nI 5) (nI 0) = some (t5.1 1 0, t5) := by
      obtain ⟨nf, hnf⟩ := NF_5
      have q : mX8_feed_63 NF t0 (nI 5) (nI 0) = mX8_feed_63 (nf + 1 + 1 + 1 + 1 + 1 + 1) t0 (nI 5) (nI 0) := by rw [hnf]
      refine q.trans ?_
      refine (feed_63 t0 0 _ (by omega)).trans ?_
      rw [v0]
      refine (a8 _ 0 (by omega)).trans ?_
      refine (feed_63 t1 1 _ (by omega)).trans ?_
      rw [w1]
      refine (b8 _ 1 (by omega)).trans ?_
      refine (feed_63 t2 2 _ (by omega)).trans ?_
      rw [w2]
      refine (c8 _ 2 (by omega)).trans ?_
      refine (feed_63 t3 3 _ (by omega)).trans ?_
      rw [w3]
      refine (d8 _ 3 (by omega)).trans ?_
      refine (feed_63 t4 4 _ (by omega)).trans ?_
      rw [w4]
      refine (e8 _ 4 (by omega)).trans ?_
      exact feed_63e t5 _
    refine Or.inl ⟨t5.1 1 0, s5, t5, ?_, em.trans e63, by rw [kt 0 (by decide)]; exact t00, F, T, hf.c (.k kσ (by decide)) h2 (.k kτ (by decide)), ⟨⟨N + 4 + 4 + 4 + 4 + 4, by omega, e5, e6⟩, by rw [kσ 3 (by decide), kτ 2 (by decide)]; exact ht2, e7⟩, hp.c (.k kσ (by decide)) (.k kτ (by decide)), hh.c (Nat.le_refl _) (.k kσ (by decide)) (.k kτ (by decide)), hv.c hh.1.1 (Nat.le_refl _) (.k kσ (by decide)) (.k kτ (by decide))⟩
    simp (implicitDefEqProofs := false) (disch := omega) only [mX7_feed, mX5_size, n1, a1, b1, c1, d1, e1, e5, e6, ↓bnd_e, ↓ob_s, ob_s, su_1, su_2, sl_1, sl_2, ↓ck_n, ck_n, ck_Z0, ck_Z1, c_lt, c_le, c_eq, ng_1, m_ne, m_en, m_lt, m_le, m_gt, m_ge, n_add, n_mul, n_sub, n_sm, n_pm, n_0m, n_cl, Nat.reduceEqDiff, ↓reduceIte, nle_T, nle_F, nlt_T, nlt_F, neq_F, neq_T, if_true, if_false, true_and, and_true, Nat.mul_zero, Nat.zero_add, Nat.add_zero, Nat.reduceAdd, Nat.reduceMul, Nat.reduceSub, li_0, li_1, li_2, li_3, li_4, li_5, li_6, li_7, li_8, li_9, li_10, li_11, li_12, li_13, li_14, li_15, li_16, li_20, li_24, li_28, li_31, li_35, li_38, li_40, li_41, li_45, li_48, li_60, li_62, li_63, li_97, li_100, li_104, li_105, li_120, li_124, li_127, li_180, li_239, li_240, li_255, li_256, li_300, li_400, li_960, li_1000000]
  · refine Or.inr ⟨nI 0, σ, su (su τ 0 (fun _ => nI 0)) 0 (fun _ => nI 1), ?_, ?_, rfl, hR2 _ _⟩
    · simp (implicitDefEqProofs := false) (disch := omega) only [tX7_feed, mX5_size, n1, ↓bnd_e, ↓ob_s, ob_s, su_1, su_2, sl_1, sl_2, ↓ck_n, ck_n, ck_Z0, ck_Z1, c_lt, c_le, c_eq, ng_1, m_ne, m_en, m_lt, m_le, m_gt, m_ge, n_add, n_mul, n_sub, n_sm, n_pm, n_0m, n_cl, Nat.reduceEqDiff, ↓reduceIte, nle_T, nle_F, nlt_T, nlt_F, neq_F, neq_T, if_true, if_false, true_and, and_true, Nat.mul_zero, Nat.zero_add, Nat.add_zero, Nat.reduceAdd, Nat.reduceMul, Nat.reduceSub, li_0, li_1, li_2, li_3, li_4, li_5, li_6, li_7, li_8, li_9, li_10, li_11, li_12, li_13, li_14, li_15, li_16, li_20, li_24, li_28, li_31, li_35, li_38, li_40, li_41, li_45, li_48, li_60, li_62, li_63, li_97, li_100, li_104, li_105, li_120, li_124, li_127, li_180, li_239, li_240, li_255, li_256, li_300, li_400, li_960, li_1000000]
    · simp (implicitDefEqProofs := false) (disch := omega) only [mX8_feed, n8, mX8_no, ↓bnd_e, ↓ob_s, ob_s, su_1, su_2, sl_1, sl_2, ↓ck_n, ck_n, ck_Z0, ck_Z1, c_lt, c_le, c_eq, ng_1, m_ne, m_en, m_lt, m_le, m_gt, m_ge, n_add, n_mul, n_sub, n_sm, n_pm, n_0m, n_cl, Nat.reduceEqDiff, ↓reduceIte, nle_T, nle_F, nlt_T, nlt_F, neq_F, neq_T, if_true, if_false, true_and, and_true, Nat.mul_zero, Nat.zero_add, Nat.add_zero, Nat.reduceAdd, Nat.reduceMul, Nat.reduceSub, li_0, li_1, li_2, li_3, li_4, li_5, li_6, li_7, li_8, li_9, li_10, li_11, li_12, li_13, li_14, li_15, li_16, li_20, li_24, li_28, li_31, li_35, li_38, li_40, li_41, li_45, li_48, li_60, li_62, li_63, li_97, li_100, li_104, li_105, li_120, li_124, li_127, li_180, li_239, li_240, li_255, li_256, li_300, li_400, li_960, li_1000000]
theorem su_su (σ : St) (k : Nat) (f g : Nat → Int32) : su (su σ k f) k g = su σ k g :=
  Prod.ext (funext fun j => by
    show (if j = k then g else if j = k then f else σ.1 j) = if j = k then g else σ.1 j
    by_cases h : j = k
    · rw [if_pos h, if_pos h]
    · rw [if_neg h, if_neg h, if_neg h]) rfl
theorem P_assume {σ τ : St} (h : RR σ τ) (p1 : Int32) : (∃ (r : Int32) (σ' : St) (τ' : St), mX7_assume σ p1 = some (r, σ') ∧ mX8_assume τ p1 = some (r, τ') ∧ τ'.1 0 0 = 0 ∧ RR σ' τ') ∨ (∃ (v : Int32) (σ' : St) (τ' : St), tX7_assume σ p1 = some (3, σ') ∧ mX8_assume τ p1 = some (v, τ') ∧ τ'.1 0 0 = 1 ∧ RR σ' τ') ∨ (∃ (v : Int32) (σ' : St) (τ' : St), tX7_assume σ p1 = some (1, σ') ∧ mX8_assume τ p1 = some (v, τ') ∧ τ'.1 0 0 = 2 ∧ RR σ' τ') := by
  have hR2 := fun v w => RR_thr (RR_thr h v) w
  obtain ⟨F, T, hf, ht, hp, hh, L, B, n, O, ⟨a8, a6, a1, a2, a7, a9, a3, a4⟩, b1, c1, d1, hH⟩ := h
  have h5 := hf.1.2.2
  have hI := hH.inv
  have hL60 := hI.1.1
  have hBL := hI.1.2.1
  have hO6 := hI.1.2.2
  have hnn := Hist.n _ _ _ _ _ _ hH
  have t5 : (su τ 0 (fun _ => nI 0)).1 5 0 = nI F := h5
  have u6 : (su τ 0 (fun _ => nI 0)).1 6 0 = nI L := a6
  have eo : mX8_open (su τ 0 (fun _ => nI 0)) = some (nI O) := x8_open_r (τ := su τ 0 (fun _ => nI 0)) (hI.k (m := [0]) hh.1.1 (KE.rf.s (by decide)) (by decide))
  rcases kn_rel hf p1 with ⟨f, hfF, rfl, k1, k8⟩ | ⟨k1, k8⟩
  · have k8' := k8 _ t5
    by_cases hO : O < 6
    · by_cases hL : L < 60
      · obtain ⟨s, es⟩ : ∃ v, v = su (su (su (su (su (su σ 36 (upd (σ.1 36) B (nI L))) 37 (upd (σ.1 37) B mI)) 38 (upd (σ.1 38) B (σ.1 11 0))) 11 (fun _ => nI B)) 9 (fun _ => nI (B + 1))) 10 (fun _ => nI (O + 1)) := ⟨_, rfl⟩
        obtain ⟨t, et⟩ : ∃ v, v = su (su (su (su (su (su τ 0 (fun _ => nI 0)) 27 (upd (τ.1 27) B (τ.1 8 0))) 25 (upd (τ.1 25) B (nI L))) 26 (upd (τ.1 26) B mI)) 8 (fun _ => nI B)) 7 (fun _ => nI (B + 1)) := ⟨_, rfl⟩
        have ks : KE [36, 37, 38, 11, 9, 10] σ s := by rw [es]; exact (((((KE.rf.s (by decide)).s (by decide)).s (by decide)).s (by decide)).s (by decide)).s (by decide)
        have kt : KE [0, 27, 25, 26, 8, 7] τ t := by rw [et]; exact (((((KE.rf.s (by decide)).s (by decide)).s (by decide)).s (by decide)).s (by decide)).s (by decide)
        have s2 : s.2 = σ.2 := by rw [es]; rfl
        have eop : mX3_openBox σ = some s := by
          rw [es]
          simp (implicitDefEqProofs := false) (disch := omega) only [mX3_openBox, mX0_addAt, a8, a1, a3, ↓bnd_e, ↓ob_s, ob_s, su_1, su_2, sl_1, sl_2, ↓ck_n, ck_n, ck_Z0, ck_Z1, c_lt, c_le, c_eq, ng_1, m_ne, m_en, m_lt, m_le, m_gt, m_ge, n_add, n_mul, n_sub, n_sm, n_pm, n_0m, n_cl, Nat.reduceEqDiff, ↓reduceIte, nle_T, nle_F, nlt_T, nlt_F, neq_F, neq_T, if_true, if_false, true_and, and_true, Nat.mul_zero, Nat.zero_add, Nat.add_zero, Nat.reduceAdd, Nat.reduceMul, Nat.reduceSub, li_0, li_1, li_2, li_3, li_4, li_5, li_6, li_7, li_8, li_9, li_10, li_11, li_12, li_13, li_14, li_15, li_16, li_20, li_24, li_28, li_31, li_35, li_38, li_40, li_41, li_45, li_48, li_60, li_62, li_63, li_97, li_100, li_104, li_105, li_120, li_124, li_127, li_180, li_239, li_240, li_255, li_256, li_300, li_400, li_960, li_1000000]
        have s36 : s.1 36 = upd (σ.1 36) B (nI L) := by rw [es]; rfl
        have s37 : s.1 37 = upd (σ.1 37) B mI := by rw [es]; rfl
        have s38 : s.1 38 = upd (σ.1 38) B (σ.1 11 0) := by rw [es]; rfl
        have s11 : s.1 11 0 = nI B := by rw [es]; rfl
        have s9 : s.1 9 0 = nI (B + 1) := by rw [es]; rfl
        have s10 : s.1 10 0 = nI (O + 1) := by rw [es]; rfl
        have t25 : t.1 25 = upd (τ.1 25) B (nI L) := by rw [et]; rfl
        have t26 : t.1 26 = upd (τ.1 26) B mI := by rw [et]; rfl
        have t27 : t.1 27 = upd (τ.1 27) B (τ.1 8 0) := by rw [et]; rfl
        have t8 : t.1 8 0 = nI B := by rw [et]; rfl
        have t7 : t.1 7 0 = nI (B + 1) := by rw [et]; rfl
        have t0 : t.1 0 0 = nI 0 := by rw [et]; rfl
        obtain ⟨σ', x1, x2, x3, x4, x5, x6, x7, x8, x9, x10, x11⟩ := x3_add (σ := s) (m := 0) (a := nI 0) hL (by omega : n < 120) (by rw [ks 8 (by decide)]; exact a8) (by rw [ks 7 (by decide)]; exact a7) (by omega : 14 ≤ 15) (fun h => absurd h (by omega)) (nI f) (nI 0) (nI 0)
        obtain ⟨τ', y1, y2, y3, y4, y5, y6, y7, y8, y9⟩ := x8_add (τ := t) hL (by omega : n < 120) (by rw [kt 6 (by decide)]; exact a6) (by rw [kt 9 (by decide)]; exact a9) (nI f) (nI 14) (nI 0) (nI 0) (nI 0)
        have z0 : zr (kdM 14 0 0) (nI 0) = nI 0 := rfl
        have z1 : zr (kdM 14 0 1) (nI 0) = nI 0 := rfl
        have z2 : zr (kdM 14 0 2) (nI 0) = nI 0 := rfl
        have kτ : KE ([0, 27, 25, 26, 8, 7] ++ kB) τ τ' := (kt.wk (by decide)).tr (y2.wk (by decide))
        have kσ : KE ([36, 37, 38, 11, 9, 10] ++ kA) σ σ' := (ks.wk (by decide)).tr (x2.wk (by decide))
        have hg : GA T n L B τ.1 τ'.1 := by
          refine ⟨fun k hk => ⟨?_, ?_, ?_, fun w hw => ?_⟩, fun b hb => ⟨?_, ?_⟩, fun i hi => ?_, fun t ht => ?_⟩
          · rw [y5, pk_un (by omega), kt 21 (by decide)]
          · rw [y6, pk_un (by omega), kt 22 (by decide)]
          · rw [y8, pk_un (by omega), kt 24 (by decide)]
          · rw [y7, pk_un (by omega), pk_un (by omega), pk_un (by omega), kt 23 (by decide)]
          · rw [y2 25 (by decide), t25, pk_un (by omega)]
          · rw [y2 27 (by decide), t27, pk_un (by omega)]
          · rw [y9, pk_un (by omega), kt 28 (by decide)]
          · rw [kτ 30 (by decide)]
        have hB := hH.box (f := f) (g' := τ'.1) (e' := τ'.1 26) hh.1.1 hL hO hg (fun b hb => by rw [y2 26 (by decide), t26, pk_un (by omega)]) (by rw [y2 26 (by decide), t26, pk_us]) (by rw [y2 27 (by decide), t27, pk_us]) (by rw [y2 25 (by decide), t25, pk_us]) (by rw [y8, pk_us]; exact t8) (by rw [y6, pk_us]) hfF (by rw [y5, pk_us]) (by rw [y9, pk_us])
        have hRV : RV F T σ' τ' := by
          refine RV_add (σ := s) (τ := t) (B := B + 1) (O := O + 1) (r := 14) (m := 0) (a := nI 0) (b := nI 0) (c := nI 0) (f := nI f) (n := n) hL (by omega) s9 t7 s10 (s11.trans t8.symm) ?_ ?_ ?_ (fun h => absurd h (by omega)) x2 x4 x5 x6 x7 x8 x9 x10 x11 y2 y3 y4 y5 y6 y7 y8 y9 ?_
          · obtain ⟨q1, q2, q3, q4, q5, q6, q7⟩ := b1
            refine ⟨?_, ?_, ?_, ?_, ?_, ?_, ?_⟩
            · rw [ks 29 (by decide), kt 21 (by decide), q1]
            · rw [ks 30 (by decide), kt 22 (by decide), q2]
            · rw [ks 31 (by decide), kt 23 (by decide), q3]
            · rw [ks 33 (by decide), kt 24 (by decide), q4]
            · rw [s36, t25, q5]
            · rw [s37, t26, q6]
            · rw [s38, t27, q7, a4]
          · rw [ks 35 (by decide), kt 28 (by decide)]; exact c1
          · intro k hk r hr h22 w hw
            rw [kt 22 (by decide)] at h22
            rw [ks 32 (by decide), kt 23 (by decide), d1 k hk r hr h22 w hw]
            unfold kdN
            rw [kt 30 (by decide)]
          · rw [y2 8 (by decide), t8]; exact hB
        refine Or.inl ⟨nI L, σ', τ', ?_, ?_, by rw [y2 0 (by decide)]; exact t0, F, T, hf.c (.k kσ (by decide)) (x3.trans s2) (.k kτ (by decide)), ht.c (.k kσ (by decide)) (.k kτ (by decide)), hp.c (.k kσ (by decide)) (.k kτ (by decide)), hh.c (Nat.le_refl _) (.k kσ (by decide)) (.k kτ (by decide)), hRV⟩
        · simp (implicitDefEqProofs := false) (disch := omega) only [mX7_assume, mX3_lineCount, mX3_openCount, mX0_open, k1, a3, a8, eop, x1, ↓bnd_e, ↓ob_s, ob_s, su_1, su_2, sl_1, sl_2, ↓ck_n, ck_n, ck_Z0, ck_Z1, c_lt, c_le, c_eq, ng_1, m_ne, m_en, m_lt, m_le, m_gt, m_ge, n_add, n_mul, n_sub, n_sm, n_pm, n_0m, n_cl, Nat.reduceEqDiff, ↓reduceIte, nle_T, nle_F, nlt_T, nlt_F, neq_F, neq_T, if_true, if_false, true_and, and_true, Nat.mul_zero, Nat.zero_add, Nat.add_zero, Nat.reduceAdd, Nat.reduceMul, Nat.reduceSub, li_0, li_1, li_2, li_3, li_4, li_5, li_6, li_7, li_8, li_9, li_10, li_11, li_12, li_13, li_14, li_15, li_16, li_20, li_24, li_28, li_31, li_35, li_38, li_40, li_41, li_45, li_48, li_60, li_62, li_63, li_97, li_100, li_104, li_105, li_120, li_124, li_127, li_180, li_239, li_240, li_255, li_256, li_300, li_400, li_960, li_1000000]
        · rw [et] at y1
          simp (implicitDefEqProofs := false) (disch := omega) only [mX8_assume, k8', eo, a6, a2, y1, ↓bnd_e, ↓ob_s, ob_s, su_1, su_2, sl_1, sl_2, ↓ck_n, ck_n, ck_Z0, ck_Z1, c_lt, c_le, c_eq, ng_1, m_ne, m_en, m_lt, m_le, m_gt, m_ge, n_add, n_mul, n_sub, n_sm, n_pm, n_0m, n_cl, Nat.reduceEqDiff, ↓reduceIte, nle_T, nle_F, nlt_T, nlt_F, neq_F, neq_T, if_true, if_false, true_and, and_true, Nat.mul_zero, Nat.zero_add, Nat.add_zero, Nat.reduceAdd, Nat.reduceMul, Nat.reduceSub, li_0, li_1, li_2, li_3, li_4, li_5, li_6, li_7, li_8, li_9, li_10, li_11, li_12, li_13, li_14, li_15, li_16, li_20, li_24, li_28, li_31, li_35, li_38, li_40, li_41, li_45, li_48, li_60, li_62, li_63, li_97, li_100, li_104, li_105, li_120, li_124, li_127, li_180, li_239, li_240, li_255, li_256, li_300, li_400, li_960, li_1000000]
      · have hL' : L = 60 := by omega
        refine Or.inr (Or.inr ⟨nI 0, σ, su (su τ 0 (fun _ => nI 0)) 0 (fun _ => nI 2), ?_, ?_, rfl, hR2 _ _⟩)
        · simp (implicitDefEqProofs := false) (disch := omega) only [tX7_assume, mX3_lineCount, mX3_openCount, mX0_open, k1, a3, a8, ↓bnd_e, ↓ob_s, ob_s, su_1, su_2, sl_1, sl_2, ↓ck_n, ck_n, ck_Z0, ck_Z1, c_lt, c_le, c_eq, ng_1, m_ne, m_en, m_lt, m_le, m_gt, m_ge, n_add, n_mul, n_sub, n_sm, n_pm, n_0m, n_cl, Nat.reduceEqDiff, ↓reduceIte, nle_T, nle_F, nlt_T, nlt_F, neq_F, neq_T, if_true, if_false, true_and, and_true, Nat.mul_zero, Nat.zero_add, Nat.add_zero, Nat.reduceAdd, Nat.reduceMul, Nat.reduceSub, li_0, li_1, li_2, li_3, li_4, li_5, li_6, li_7, li_8, li_9, li_10, li_11, li_12, li_13, li_14, li_15, li_16, li_20, li_24, li_28, li_31, li_35, li_38, li_40, li_41, li_45, li_48, li_60, li_62, li_63, li_97, li_100, li_104, li_105, li_120, li_124, li_127, li_180, li_239, li_240, li_255, li_256, li_300, li_400, li_960, li_1000000]
        · simp (implicitDefEqProofs := false) (disch := omega) only [mX8_assume, mX8_assume_37, mX8_no, k8', eo, a6, ↓bnd_e, ↓ob_s, ob_s, su_1, su_2, sl_1, sl_2, ↓ck_n, ck_n, ck_Z0, ck_Z1, c_lt, c_le, c_eq, ng_1, m_ne, m_en, m_lt, m_le, m_gt, m_ge, n_add, n_mul, n_sub, n_sm, n_pm, n_0m, n_cl, Nat.reduceEqDiff, ↓reduceIte, nle_T, nle_F, nlt_T, nlt_F, neq_F, neq_T, if_true, if_false, true_and, and_true, Nat.mul_zero, Nat.zero_add, Nat.add_zero, Nat.reduceAdd, Nat.reduceMul, Nat.reduceSub, li_0, li_1, li_2, li_3, li_4, li_5, li_6, li_7, li_8, li_9, li_10, li_11, li_12, li_13, li_14, li_15, li_16, li_20, li_24, li_28, li_31, li_35, li_38, li_40, li_41, li_45, li_48, li_60, li_62, li_63, li_97, li_100, li_104, li_105, li_120, li_124, li_127, li_180, li_239, li_240, li_255, li_256, li_300, li_400, li_960, li_1000000]
    · have hO' : O = 6 := by omega
      refine Or.inr (Or.inr ⟨nI 0, σ, su (su τ 0 (fun _ => nI 0)) 0 (fun _ => nI 2), ?_, ?_, rfl, hR2 _ _⟩)
      · simp (implicitDefEqProofs := false) (disch := omega) only [tX7_assume, mX3_lineCount, mX3_openCount, mX0_open, k1, a3, a8, ↓bnd_e, ↓ob_s, ob_s, su_1, su_2, sl_1, sl_2, ↓ck_n, ck_n, ck_Z0, ck_Z1, c_lt, c_le, c_eq, ng_1, m_ne, m_en, m_lt, m_le, m_gt, m_ge, n_add, n_mul, n_sub, n_sm, n_pm, n_0m, n_cl, Nat.reduceEqDiff, ↓reduceIte, nle_T, nle_F, nlt_T, nlt_F, neq_F, neq_T, if_true, if_false, true_and, and_true, Nat.mul_zero, Nat.zero_add, Nat.add_zero, Nat.reduceAdd, Nat.reduceMul, Nat.reduceSub, li_0, li_1, li_2, li_3, li_4, li_5, li_6, li_7, li_8, li_9, li_10, li_11, li_12, li_13, li_14, li_15, li_16, li_20, li_24, li_28, li_31, li_35, li_38, li_40, li_41, li_45, li_48, li_60, li_62, li_63, li_97, li_100, li_104, li_105, li_120, li_124, li_127, li_180, li_239, li_240, li_255, li_256, li_300, li_400, li_960, li_1000000]
      · simp (implicitDefEqProofs := false) (disch := omega) only [mX8_assume, mX8_assume_37, mX8_no, k8', eo, a6, ↓bnd_e, ↓ob_s, ob_s, su_1, su_2, sl_1, sl_2, ↓ck_n, ck_n, ck_Z0, ck_Z1, c_lt, c_le, c_eq, ng_1, m_ne, m_en, m_lt, m_le, m_gt, m_ge, n_add, n_mul, n_sub, n_sm, n_pm, n_0m, n_cl, Nat.reduceEqDiff, ↓reduceIte, nle_T, nle_F, nlt_T, nlt_F, neq_F, neq_T, if_true, if_false, true_and, and_true, Nat.mul_zero, Nat.zero_add, Nat.add_zero, Nat.reduceAdd, Nat.reduceMul, Nat.reduceSub, li_0, li_1, li_2, li_3, li_4, li_5, li_6, li_7, li_8, li_9, li_10, li_11, li_12, li_13, li_14, li_15, li_16, li_20, li_24, li_28, li_31, li_35, li_38, li_40, li_41, li_45, li_48, li_60, li_62, li_63, li_97, li_100, li_104, li_105, li_120, li_124, li_127, li_180, li_239, li_240, li_255, li_256, li_300, li_400, li_960, li_1000000]
  · have k8' := k8 _ t5
    refine Or.inr (Or.inl ⟨nI 0, σ, su (su τ 0 (fun _ => nI 0)) 0 (fun _ => nI 1), ?_, ?_, rfl, hR2 _ _⟩)
    · simp (implicitDefEqProofs := false) (disch := omega) only [tX7_assume, k1, ↓bnd_e, ↓ob_s, ob_s, su_1, su_2, sl_1, sl_2, ↓ck_n, ck_n, ck_Z0, ck_Z1, c_lt, c_le, c_eq, ng_1, m_ne, m_en, m_lt, m_le, m_gt, m_ge, n_add, n_mul, n_sub, n_sm, n_pm, n_0m, n_cl, Nat.reduceEqDiff, ↓reduceIte, nle_T, nle_F, nlt_T, nlt_F, neq_F, neq_T, if_true, if_false, true_and, and_true, Nat.mul_zero, Nat.zero_add, Nat.add_zero, Nat.reduceAdd, Nat.reduceMul, Nat.reduceSub, li_0, li_1, li_2, li_3, li_4, li_5, li_6, li_7, li_8, li_9, li_10, li_11, li_12, li_13, li_14, li_15, li_16, li_20, li_24, li_28, li_31, li_35, li_38, li_40, li_41, li_45, li_48, li_60, li_62, li_63, li_97, li_100, li_104, li_105, li_120, li_124, li_127, li_180, li_239, li_240, li_255, li_256, li_300, li_400, li_960, li_1000000]
    · simp (implicitDefEqProofs := false) (disch := omega) only [mX8_assume, mX8_no, k8', ↓bnd_e, ↓ob_s, ob_s, su_1, su_2, sl_1, sl_2, ↓ck_n, ck_n, ck_Z0, ck_Z1, c_lt, c_le, c_eq, ng_1, m_ne, m_en, m_lt, m_le, m_gt, m_ge, n_add, n_mul, n_sub, n_sm, n_pm, n_0m, n_cl, Nat.reduceEqDiff, ↓reduceIte, nle_T, nle_F, nlt_T, nlt_F, neq_F, neq_T, if_true, if_false, true_and, and_true, Nat.mul_zero, Nat.zero_add, Nat.add_zero, Nat.reduceAdd, Nat.reduceMul, Nat.reduceSub, li_0, li_1, li_2, li_3, li_4, li_5, li_6, li_7, li_8, li_9, li_10, li_11, li_12, li_13, li_14, li_15, li_16, li_20, li_24, li_28, li_31, li_35, li_38, li_40, li_41, li_45, li_48, li_60, li_62, li_63, li_97, li_100, li_104, li_105, li_120, li_124, li_127, li_180, li_239, li_240, li_255, li_256, li_300, li_400, li_960, li_1000000]
