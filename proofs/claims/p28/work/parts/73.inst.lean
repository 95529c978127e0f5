def lv (τ : St) (j : Nat) : Nat := (τ.1 18 j).toNatClampNeg
theorem sh1 : ∀ l, l < 8 → (1 : Int32) <<< (nI l &&& 31) = nI (2 ^ l) ∧ 2 ^ l < 256 := by decide +kernel
/-- the letters of a formula, by its parts -/
theorem lv_parts {F : Nat} {σ τ : St} (h : RF F σ τ) : ∀ n j, j < n → j < F → (lv τ j < 256 ∧ τ.1 18 j = nI (lv τ j)) ∧
    ((∃ l, l < 8 ∧ τ.1 15 j = nI 0 ∧ τ.1 16 j = nI l ∧ τ.1 17 j = mI ∧ lv τ j = 2 ^ l) ∨ (τ.1 15 j = nI 1 ∧ lv τ j = 0) ∨ (∃ a, a < j ∧ τ.1 15 j = nI 2 ∧ τ.1 16 j = nI a ∧ lv τ j = lv τ a) ∨
      ∃ s a b, 3 ≤ s ∧ s ≤ 5 ∧ τ.1 15 j = nI s ∧ a < j ∧ b < j ∧ τ.1 16 j = nI a ∧ τ.1 17 j = nI b ∧ lv τ j = lv τ a ||| lv τ b) := by
  have hF := h.le
  intro n
  induction n with
  | zero => intro j h; omega
  | succ n ih =>
    intro j hj hjF
    obtain ⟨_, ⟨s, s5, e15, ag, l0, l1, l2, l3⟩, _⟩ := h.2.1 j hjF
    rcases ag with ⟨rfl, l, hl, x1, x2⟩ | ⟨rfl, x1, x2⟩ | ⟨rfl, a, ha, x1, x2⟩ | ⟨s3, _, a, b, ha, hb, x1, x2⟩
    · have e := l0 rfl
      rw [x1, (sh1 l hl).1] at e
      have p := (sh1 l hl).2
      have q : lv τ j = 2 ^ l := by unfold lv; rw [e, n_cl (by omega)]
      rw [q]
      exact ⟨⟨p, e⟩, Or.inl ⟨l, hl, e15, x1, x2, rfl⟩⟩
    · have e := l1 rfl
      have q : lv τ j = 0 := by unfold lv; rw [e, n_cl (by omega)]
      rw [q]
      exact ⟨⟨by omega, e⟩, Or.inr (Or.inl ⟨e15, rfl⟩)⟩
    · have e := l2 rfl
      obtain ⟨⟨p1, p2⟩, _⟩ := ih a (by omega) (by omega)
      rw [x1, n_cl (by omega), p2, orI, Nat.or_zero] at e
      have q : lv τ j = lv τ a := by rw [show lv τ j = (τ.1 18 j).toNatClampNeg from rfl, e, n_cl (by omega)]
      rw [q]
      exact ⟨⟨p1, e⟩, Or.inr (Or.inr (Or.inl ⟨a, ha, e15, x1, rfl⟩))⟩
    · have e := l3 s3
      obtain ⟨⟨p1, p2⟩, _⟩ := ih a (by omega) (by omega)
      obtain ⟨⟨p3, p4⟩, _⟩ := ih b (by omega) (by omega)
      rw [x1, x2, n_cl (by omega), n_cl (by omega), p2, p4, orI] at e
      have p5 : lv τ a ||| lv τ b < 256 := Nat.or_lt_two_pow (n := 8) p1 p3
      have q : lv τ j = lv τ a ||| lv τ b := by rw [show lv τ j = (τ.1 18 j).toNatClampNeg from rfl, e, n_cl (by omega)]
      rw [q]
      exact ⟨⟨p5, e⟩, Or.inr (Or.inr (Or.inr ⟨s, a, b, s3, s5, e15, ha, hb, x1, x2, rfl⟩))⟩
/-- a letter that stands in a formula is known -/
theorem lv_known {F l : Nat} {σ τ : St} (h : RF F σ τ) : ∀ n j, j < n → j < F → (lv τ j).testBit l = true → ∃ p, p < F ∧ τ.1 15 p = nI 0 ∧ τ.1 16 p = nI l ∧ τ.1 17 p = mI := by
  intro n
  induction n with
  | zero => intro j h; omega
  | succ n ih =>
    intro j hj hjF hb
    rcases (lv_parts h (j + 1) j (by omega) hjF).2 with ⟨k, hk, x1, x2, x3, x4⟩ | ⟨x1, x2⟩ | ⟨a, ha, x1, x2, x3⟩ | ⟨s, a, b, s3, s5, x1, ha, hb', x2, x3, x4⟩
    · rw [x4, Nat.testBit_two_pow] at hb
      have : k = l := of_decide_eq_true hb
      subst this
      exact ⟨j, hjF, x1, x2, x3⟩
    · rw [x2, Nat.zero_testBit] at hb; exact absurd hb (by decide)
    · rw [x3] at hb; exact ih a (by omega) (by omega) hb
    · rw [x4, Nat.testBit_or] at hb
      cases ha' : (lv τ a).testBit l
      · rw [ha', Bool.false_or] at hb; exact ih b (by omega) (by omega) hb
      · exact ih a (by omega) (by omega) ha'
/-- nothing stands for a letter that doesn't stand in the formula -/
theorem mt_out {F l : Nat} {σ τ : St} (h : RF F σ τ) {g : Nat → Int32} {c f : Nat} (hc : c < F) (hf : f < F) (hg : mtG F τ g) (gc : g c = nI f) (hm : ∀ φ, mtG F τ φ → φ c = nI f → mtS F g φ) (hb : (lv τ c).testBit l = false) {p : Nat} (hp : p < F) (hpl : (lv τ p).testBit l = true) : g p = mI := by
  have hF := h.le
  have hφ : mtG F τ (fun q => if (lv τ q).testBit l = true then mI else g q) := by
    refine ⟨fun q hq => ?_, fun q v hq hv e => ?_⟩
    · dsimp only
      by_cases e : (lv τ q).testBit l = true
      · rw [if_pos e]; exact Or.inl rfl
      · rw [if_neg e]; exact hg.1 q hq
    · dsimp only at e
      by_cases e2 : (lv τ q).testBit l = true
      · rw [if_pos e2, m_en (by omega)] at e; exact e.elim
      · rw [if_neg e2] at e
        rcases hg.2 q v hq hv e with w | ⟨w, w2 | ⟨w2, w3⟩⟩
        · exact Or.inl w
        · exact Or.inr ⟨w, Or.inl w2⟩
        · rcases (lv_parts h (q + 1) q (by omega) hq).2 with ⟨k, hk, x1, _⟩ | ⟨x1, x2⟩ | ⟨a, ha, x1, x2, x3⟩ | ⟨s, a, b, s3, s5, x1, ha, hb', x2, x3, x4⟩
          · exact Or.inl x1
          · exact Or.inr ⟨w, Or.inl x1⟩
          · rw [x2, n_cl (by omega)] at w2
            refine Or.inr ⟨w, Or.inr ⟨?_, Or.inl x1⟩⟩
            rw [x2, n_cl (by omega)]
            dsimp only
            rw [if_neg (by rw [← x3]; exact e2)]; exact w2
          · rw [x2, n_cl (by omega)] at w2
            rw [x3, n_cl (by omega)] at w3
            rw [x4, Nat.testBit_or] at e2
            have ea : ¬ (lv τ a).testBit l = true := fun h => e2 (by rw [h]; rfl)
            have eb : ¬ (lv τ b).testBit l = true := fun h => e2 (by rw [h, Bool.or_true])
            refine Or.inr ⟨w, Or.inr ⟨?_, ?_⟩⟩
            · rw [x2, n_cl (by omega)]
              dsimp only
              rw [if_neg ea]; exact w2
            · rcases w3 with w3 | w3
              · exact Or.inl w3
              · refine Or.inr ?_
                rw [x3, n_cl (by omega)]
                dsimp only
                rw [if_neg eb]; exact w3
  have hs := hm _ hφ (by rw [if_neg (by rw [hb]; decide)]; exact gc)
  rcases hg.1 p hp with e | ⟨v, hv, e⟩
  · exact e
  · have := hs p v hp hv e
    dsimp only at this
    rw [if_pos hpl, m_en (by omega)] at this
    exact this.elim
theorem P_instance {σ τ : St} (h : RR σ τ) (p1 p2 p3 : Int32) : (∃ (r : Int32) (σ' : St) (τ' : St), mX7_instance σ p1 p2 p3 = some (r, σ') ∧ mX8_instance τ p1 p2 p3 = some (r, τ') ∧ τ'.1 0 0 = 0 ∧ RR σ' τ') ∨ (∃ (v : Int32) (σ' : St) (τ' : St), tX7_instance σ p1 p2 p3 = some (3, σ') ∧ mX8_instance τ p1 p2 p3 = some (v, τ') ∧ τ'.1 0 0 = 1 ∧ RR σ' τ') := by
  have h0 := h
  have hR2 := fun v w => RR_thr (RR_thr h v) w
  obtain ⟨F, T, hf, ht, hp, hh, hv⟩ := h
  have hF := hf.le
  have kz : KE [0] τ (su τ 0 (fun _ => nI 0)) := KE.rf.s (by decide)
  have hf' : RF F σ (su τ 0 (fun _ => nI 0)) := hf.c (fun _ _ => rfl) rfl (.k kz (by decide))
  have z5 : (su τ 0 (fun _ => nI 0)).1 5 0 = nI F := hf.1.2.2
  have bad : ∀ {P : Prop}, tX7_instance σ p1 p2 p3 = some (3, σ) → mX8_instance τ p1 p2 p3 = some (nI 0, su (su τ 0 (fun _ => nI 0)) 0 (fun _ => nI 1)) → P ∨ (∃ (v : Int32) (σ' : St) (τ' : St), tX7_instance σ p1 p2 p3 = some (3, σ') ∧ mX8_instance τ p1 p2 p3 = some (v, τ') ∧ τ'.1 0 0 = 1 ∧ RR σ' τ') := fun x y => Or.inr ⟨_, _, _, x, y, rfl, hR2 _ _⟩
  rcases it_rel (τ := τ) hh.1.1 hh.1.2.1 p1 with ⟨t, htT, rfl, k1, k8⟩ | ⟨_, k1, k8⟩
  · have k8' := k8 (su τ 0 (fun _ => nI 0)) hh.1.2.2
    rcases kn_rel hf p2 with ⟨f, hff, rfl, i1, i8⟩ | ⟨i1, i8⟩
    · have i8' := i8 _ z5
      rcases x8_in p3 7 (by omega) with ⟨l, hl, rfl, g1⟩ | ⟨g0, gx, g2⟩
      · obtain ⟨c, m, q1, q2, hc, hm, e22, e29, e30, _, _⟩ := theo_p hh htT
        have hT := hh.1.1
        obtain ⟨b, s', r1, r2, r3, r4⟩ := says_c (m := 0) (x := 0) (y := 0) (p1 := 0) (p2 := 0) hf' hT hh.1.2.1 htT hc hff (by omega) e22 (fun h => absurd h (by omega)) (fun h => absurd h (by omega))
        have r1' : mX6_saysWithPremises σ (nI t) (nI f) (-1) (-1) = some (zB b, s') := r1
        obtain ⟨t0, a1, a2, _, a5⟩ := clear_l hF F 0 NF (su τ 0 (fun _ => nI 0)) (by omega) (by show F < 1000; omega) z5
        have ef : mX8_clearStands (su τ 0 (fun _ => nI 0)) = some t0 := a1
        have G0 : mtG F (su τ 0 (fun _ => nI 0)) (t0.1 39) := ⟨fun p hp => Or.inl (a5 p (by omega) hp), fun p f hp hf e => by rw [a5 p (by omega) hp, m_en (by omega)] at e; exact e.elim⟩
        have S0 : ∀ φ, mtS F (t0.1 39) φ := fun φ p f hp hf e => by rw [a5 p (by omega) hp, m_en (by omega)] at e; exact e.elim
        obtain ⟨b', t', u1, u2, u3, u4, _, u6, u7⟩ := m8_becomes hf' 256 c f t0 hc hff (by omega) a2 G0
        have u1' : mX8_becomes t0 (nI c) (nI f) = some (zB b', t') := u1
        have w29 : t0.1 29 t = nI c := by rw [a2 29 (by decide)]; exact e29
        have w29' : t'.1 29 t = nI c := by rw [u2 29 (by decide)]; exact e29
        have F8 : mtF F (su τ 0 (fun _ => nI 0)) b' (t'.1 39) (mtK c 0 0 f 0 (nI 0) (nI 0)) := ⟨fun e => ⟨⟨u6 e, fun h => absurd h (by omega), fun h => absurd h (by omega)⟩, u3⟩, fun φ y1 y2 => u7 φ y1 (S0 φ) y2.1⟩
        obtain ⟨eb, eg⟩ := r4.eq F8
        subst eb
        have kτ : KE [0, 39] τ t' := (kz.wk (by decide)).tr (u2.wk (by decide))
        have hRR : RR s' t' := h0.c (r2.wk (by decide)) r3 (kτ.wk (by decide))
        have t00 : t'.1 0 0 = nI 0 := by rw [u2 0 (by decide)]; rfl
        have ec : mX6_concludes σ (nI t) (nI f) = some (zB b, s') := by
          unfold mX6_concludes
          rw [r1', ob_s]
          exact ck_zB b _
        cases b
        · rw [zB_0] at ec u1'
          refine Or.inl ⟨mI, s', t', ?_, ?_, t00, hRR⟩
          · simp (implicitDefEqProofs := false) (disch := omega) only [mX7_instance, k1, i1, ec, ↓bnd_e, ↓ob_s, ob_s, su_1, su_2, sl_1, sl_2, ↓ck_n, ck_n, ck_Z0, ck_Z1, c_lt, c_le, c_eq, ng_1, m_ne, m_en, m_lt, m_le, m_gt, m_ge, n_add, n_mul, n_sub, n_sm, n_pm, n_0m, n_cl, Nat.reduceEqDiff, ↓reduceIte, nle_T, nle_F, nlt_T, nlt_F, neq_F, neq_T, if_true, if_false, true_and, and_true, Nat.mul_zero, Nat.zero_add, Nat.add_zero, Nat.reduceAdd, Nat.reduceMul, Nat.reduceSub, li_0, li_1, li_2, li_3, li_4, li_5, li_6, li_7, li_8, li_9, li_10, li_11, li_12, li_13, li_14, li_15, li_16, li_20, li_24, li_28, li_31, li_35, li_38, li_40, li_41, li_45, li_48, li_60, li_62, li_63, li_97, li_100, li_104, li_105, li_120, li_124, li_127, li_180, li_239, li_240, li_255, li_256, li_300, li_400, li_960, li_1000000]
          · simp (implicitDefEqProofs := false) (disch := omega) only [mX8_instance, k8', i8', g1, ef, w29, u1', ↓bnd_e, ↓ob_s, ob_s, su_1, su_2, sl_1, sl_2, ↓ck_n, ck_n, ck_Z0, ck_Z1, c_lt, c_le, c_eq, ng_1, m_ne, m_en, m_lt, m_le, m_gt, m_ge, n_add, n_mul, n_sub, n_sm, n_pm, n_0m, n_cl, Nat.reduceEqDiff, ↓reduceIte, nle_T, nle_F, nlt_T, nlt_F, neq_F, neq_T, if_true, if_false, true_and, and_true, Nat.mul_zero, Nat.zero_add, Nat.add_zero, Nat.reduceAdd, Nat.reduceMul, Nat.reduceSub, li_0, li_1, li_2, li_3, li_4, li_5, li_6, li_7, li_8, li_9, li_10, li_11, li_12, li_13, li_14, li_15, li_16, li_20, li_24, li_28, li_31, li_35, li_38, li_40, li_41, li_45, li_48, li_60, li_62, li_63, li_97, li_100, li_104, li_105, li_120, li_124, li_127, li_180, li_239, li_240, li_255, li_256, li_300, li_400, li_960, li_1000000]
        · rw [zB_1] at ec u1'
          have h5' : t'.1 5 0 = nI F := by rw [u2 5 (by decide)]; exact z5
          have h00 : s'.1 0 0 = nI F := by rw [r2 0 (by decide)]; exact hf.1.2.1
          have hE : FE3 F s' t' := fun j hj => by
            obtain ⟨x, y, z⟩ := hf.f3 j hj
            rw [r2 12 (by decide), r2 13 (by decide), r2 14 (by decide), u2 15 (by decide), u2 16 (by decide), u2 17 (by decide)]
            exact ⟨x, y, z⟩
          obtain ⟨r, n1, n8, hr⟩ := find_r hF h00 h5' hE (nI 0) (nI l) mI
          obtain ⟨⟨lv1, lv2⟩, _⟩ := lv_parts hf' (c + 1) c (by omega) hc
          have w18 : t'.1 18 c = nI (lv (su τ 0 (fun _ => nI 0)) c) := by rw [u2 18 (by decide)]; exact lv2
          have eb := bit_l (k := lv (su τ 0 (fun _ => nI 0)) c) (l := l) lv1 (by omega)
          have tb : (lv (su τ 0 (fun _ => nI 0)) c).testBit l = decide (lv (su τ 0 (fun _ => nI 0)) c / 2 ^ l % 2 = 1) := Nat.testBit_eq_decide_div_mod_eq
          have hm2 : lv (su τ 0 (fun _ => nI 0)) c / 2 ^ l % 2 < 2 := Nat.mod_lt _ (by decide)
          have e7 : mX7_instance σ (nI t) (nI f) (nI l) = (mX6_imageOfLetter s' (nI l)).bind fun r13 => some (r13, s') := by
            simp (implicitDefEqProofs := false) (disch := omega) only [mX7_instance, k1, i1, ec, ↓bnd_e, ↓ob_s, ob_s, su_1, su_2, sl_1, sl_2, ↓ck_n, ck_n, ck_Z0, ck_Z1, c_lt, c_le, c_eq, ng_1, m_ne, m_en, m_lt, m_le, m_gt, m_ge, n_add, n_mul, n_sub, n_sm, n_pm, n_0m, n_cl, Nat.reduceEqDiff, ↓reduceIte, nle_T, nle_F, nlt_T, nlt_F, neq_F, neq_T, if_true, if_false, true_and, and_true, Nat.mul_zero, Nat.zero_add, Nat.add_zero, Nat.reduceAdd, Nat.reduceMul, Nat.reduceSub, li_0, li_1, li_2, li_3, li_4, li_5, li_6, li_7, li_8, li_9, li_10, li_11, li_12, li_13, li_14, li_15, li_16, li_20, li_24, li_28, li_31, li_35, li_38, li_40, li_41, li_45, li_48, li_60, li_62, li_63, li_97, li_100, li_104, li_105, li_120, li_124, li_127, li_180, li_239, li_240, li_255, li_256, li_300, li_400, li_960, li_1000000]
          have e8 : mX8_instance τ (nI t) (nI f) (nI l) = (if nI (lv (su τ 0 (fun _ => nI 0)) c / 2 ^ l % 2) = nI 0 then some (mI, t') else (mX8_find t' (nI 0) (nI l) mI).bind fun r22 => chkI r22 240 (some (t'.1 39 r22.toNatClampNeg, t'))) := by
            rw [← eb, ← w18]
            simp (implicitDefEqProofs := false) (disch := omega) only [mX8_instance, k8', i8', g1, ef, w29, w29', u1', ↓bnd_e, ↓ob_s, ob_s, su_1, su_2, sl_1, sl_2, ↓ck_n, ck_n, ck_Z0, ck_Z1, c_lt, c_le, c_eq, ng_1, m_ne, m_en, m_lt, m_le, m_gt, m_ge, n_add, n_mul, n_sub, n_sm, n_pm, n_0m, n_cl, Nat.reduceEqDiff, ↓reduceIte, nle_T, nle_F, nlt_T, nlt_F, neq_F, neq_T, if_true, if_false, true_and, and_true, Nat.mul_zero, Nat.zero_add, Nat.add_zero, Nat.reduceAdd, Nat.reduceMul, Nat.reduceSub, li_0, li_1, li_2, li_3, li_4, li_5, li_6, li_7, li_8, li_9, li_10, li_11, li_12, li_13, li_14, li_15, li_16, li_20, li_24, li_28, li_31, li_35, li_38, li_40, li_41, li_45, li_48, li_60, li_62, li_63, li_97, li_100, li_104, li_105, li_120, li_124, li_127, li_180, li_239, li_240, li_255, li_256, li_300, li_400, li_960, li_1000000]
          have im : mX6_imageOfLetter s' (nI l) = (mX1_find s' (nI 0) (nI l) mI).bind fun r1 => if r1 < 0 then some (-1) else if 240 ≤ r1 then some (-1) else chkI r1 240 (some (s'.1 28 r1.toNatClampNeg)) := rfl
          rw [e7, e8, im, n1, n8, ob_s, ob_s]
          rcases hr with ⟨rfl, hno⟩ | ⟨k, hk, rfl, x1, x2, x3⟩
          · have hbit : lv (su τ 0 (fun _ => nI 0)) c / 2 ^ l % 2 = 0 := by
              by_cases e : lv (su τ 0 (fun _ => nI 0)) c / 2 ^ l % 2 = 1
              · obtain ⟨p, hp1, y1, y2, y3⟩ := lv_known hf' (c + 1) c (by omega) hc (by rw [tb]; exact decide_eq_true e)
                exact (hno p hp1 ⟨by rw [u2 15 (by decide)]; exact y1, by rw [u2 16 (by decide)]; exact y2, by rw [u2 17 (by decide)]; exact y3⟩).elim
              · omega
            rw [hbit, if_pos rfl, if_pos (by decide)]
            exact Or.inl ⟨mI, s', t', rfl, rfl, t00, hRR⟩
          · rw [if_neg (show ¬ nI k < 0 from nI_pos (by omega)), if_neg (by rw [show (240 : Int32) = nI 240 from rfl, c_le (by omega) (by omega)]; omega), ck_n _ (by omega) (by omega), ck_n _ (by omega) (by omega), n_cl (by omega), ob_s]
            refine Or.inl ⟨s'.1 28 k, s', t', rfl, ?_, t00, hRR⟩
            by_cases e : lv (su τ 0 (fun _ => nI 0)) c / 2 ^ l % 2 = 1
            · rw [if_neg (by rw [c_eq (by omega) (by omega)]; omega), eg rfl k hk]
            · have hz : lv (su τ 0 (fun _ => nI 0)) c / 2 ^ l % 2 = 0 := by omega
              rw [hz, if_pos rfl]
              have y1 : (su τ 0 (fun _ => nI 0)).1 15 k = nI 0 := by rw [← u2 15 (by decide)]; exact x1
              have y2 : (su τ 0 (fun _ => nI 0)).1 16 k = nI l := by rw [← u2 16 (by decide)]; exact x2
              have kb : (lv (su τ 0 (fun _ => nI 0)) k).testBit l = true := by
                rcases (lv_parts hf' (k + 1) k (by omega) hk).2 with ⟨l', hl', _, z2, _, z4⟩ | ⟨z1, _⟩ | ⟨a, _, z1, _⟩ | ⟨s, a, b, s3, s5, z1, _⟩
                · rw [y2, c_eq (by omega) (by omega)] at z2
                  subst z2
                  rw [z4, Nat.testBit_two_pow]; exact decide_eq_true rfl
                · rw [y1, c_eq (by omega) (by omega)] at z1; omega
                · rw [y1, c_eq (by omega) (by omega)] at z1; omega
                · rw [y1, c_eq (by omega) (by omega)] at z1; omega
              have := mt_out hf' hc hff (r4.1 rfl).2 (r4.1 rfl).1.1 (fun φ y1 y2 => (r4.2 φ y1 ⟨y2, fun h => absurd h (by omega), fun h => absurd h (by omega)⟩).2) (by rw [tb]; exact decide_eq_false e) hk kb
              rw [this]
      · refine bad ?_ ?_
        · rcases ix3 p3 8 (by omega) with ⟨h, h'⟩ | ⟨h, h', _, h2, h3⟩ | ⟨j, hj, rfl⟩
          · simp (implicitDefEqProofs := false) (disch := omega) only [tX7_instance, k1, i1, h, ↓bnd_e, ↓ob_s, ob_s, su_1, su_2, sl_1, sl_2, ↓ck_n, ck_n, ck_Z0, ck_Z1, c_lt, c_le, c_eq, ng_1, m_ne, m_en, m_lt, m_le, m_gt, m_ge, n_add, n_mul, n_sub, n_sm, n_pm, n_0m, n_cl, Nat.reduceEqDiff, ↓reduceIte, nle_T, nle_F, nlt_T, nlt_F, neq_F, neq_T, if_true, if_false, true_and, and_true, Nat.mul_zero, Nat.zero_add, Nat.add_zero, Nat.reduceAdd, Nat.reduceMul, Nat.reduceSub, li_0, li_1, li_2, li_3, li_4, li_5, li_6, li_7, li_8, li_9, li_10, li_11, li_12, li_13, li_14, li_15, li_16, li_20, li_24, li_28, li_31, li_35, li_38, li_40, li_41, li_45, li_48, li_60, li_62, li_63, li_97, li_100, li_104, li_105, li_120, li_124, li_127, li_180, li_239, li_240, li_255, li_256, li_300, li_400, li_960, li_1000000]
          · have := (h3 8 (by omega)).2
            simp (implicitDefEqProofs := false) (disch := omega) only [tX7_instance, k1, i1, h, this, ↓bnd_e, ↓ob_s, ob_s, su_1, su_2, sl_1, sl_2, ↓ck_n, ck_n, ck_Z0, ck_Z1, c_lt, c_le, c_eq, ng_1, m_ne, m_en, m_lt, m_le, m_gt, m_ge, n_add, n_mul, n_sub, n_sm, n_pm, n_0m, n_cl, Nat.reduceEqDiff, ↓reduceIte, nle_T, nle_F, nlt_T, nlt_F, neq_F, neq_T, if_true, if_false, true_and, and_true, Nat.mul_zero, Nat.zero_add, Nat.add_zero, Nat.reduceAdd, Nat.reduceMul, Nat.reduceSub, li_0, li_1, li_2, li_3, li_4, li_5, li_6, li_7, li_8, li_9, li_10, li_11, li_12, li_13, li_14, li_15, li_16, li_20, li_24, li_28, li_31, li_35, li_38, li_40, li_41, li_45, li_48, li_60, li_62, li_63, li_97, li_100, li_104, li_105, li_120, li_124, li_127, li_180, li_239, li_240, li_255, li_256, li_300, li_400, li_960, li_1000000]
          · exact (gx ⟨j, by omega, rfl⟩).elim
        · simp (implicitDefEqProofs := false) (disch := omega) only [mX8_instance, mX8_instance_31, mX8_no, k8', i8', g2, ↓bnd_e, ↓ob_s, ob_s, su_1, su_2, sl_1, sl_2, ↓ck_n, ck_n, ck_Z0, ck_Z1, c_lt, c_le, c_eq, ng_1, m_ne, m_en, m_lt, m_le, m_gt, m_ge, n_add, n_mul, n_sub, n_sm, n_pm, n_0m, n_cl, Nat.reduceEqDiff, ↓reduceIte, nle_T, nle_F, nlt_T, nlt_F, neq_F, neq_T, if_true, if_false, true_and, and_true, Nat.mul_zero, Nat.zero_add, Nat.add_zero, Nat.reduceAdd, Nat.reduceMul, Nat.reduceSub, li_0, li_1, li_2, li_3, li_4, li_5, li_6, li_7, li_8, li_9, li_10, li_11, li_12, li_13, li_14, li_15, li_16, li_20, li_24, li_28, li_31, li_35, li_38, li_40, li_41, li_45, li_48, li_60, li_62, li_63, li_97, li_100, li_104, li_105, li_120, li_124, li_127, li_180, li_239, li_240, li_255, li_256, li_300, li_400, li_960, li_1000000]
    · have i8' := i8 _ z5
      exact bad (by simp (implicitDefEqProofs := false) (disch := omega) only [tX7_instance, k1, i1, ↓bnd_e, ↓ob_s, ob_s, su_1, su_2, sl_1, sl_2, ↓ck_n, ck_n, ck_Z0, ck_Z1, c_lt, c_le, c_eq, ng_1, m_ne, m_en, m_lt, m_le, m_gt, m_ge, n_add, n_mul, n_sub, n_sm, n_pm, n_0m, n_cl, Nat.reduceEqDiff, ↓reduceIte, nle_T, nle_F, nlt_T, nlt_F, neq_F, neq_T, if_true, if_false, true_and, and_true, Nat.mul_zero, Nat.zero_add, Nat.add_zero, Nat.reduceAdd, Nat.reduceMul, Nat.reduceSub, li_0, li_1, li_2, li_3, li_4, li_5, li_6, li_7, li_8, li_9, li_10, li_11, li_12, li_13, li_14, li_15, li_16, li_20, li_24, li_28, li_31, li_35, li_38, li_40, li_41, li_45, li_48, li_60, li_62, li_63, li_97, li_100, li_104, li_105, li_120, li_124, li_127, li_180, li_239, li_240, li_255, li_256, li_300, li_400, li_960, li_1000000]) (by simp (implicitDefEqProofs := false) (disch := omega) only [mX8_instance, mX8_instance_31, mX8_no, k8', i8', ↓bnd_e, ↓ob_s, ob_s, su_1, su_2, sl_1, sl_2, ↓ck_n, ck_n, ck_Z0, ck_Z1, c_lt, c_le, c_eq, ng_1, m_ne, m_en, m_lt, m_le, m_gt, m_ge, n_add, n_mul, n_sub, n_sm, n_pm, n_0m, n_cl, Nat.reduceEqDiff, ↓reduceIte, nle_T, nle_F, nlt_T, nlt_F, neq_F, neq_T, if_true, if_false, true_and, and_true, Nat.mul_zero, Nat.zero_add, Nat.add_zero, Nat.reduceAdd, Nat.reduceMul, Nat.reduceSub, li_0, li_1, li_2, li_3, li_4, li_5, li_6, li_7, li_8, li_9, li_10, li_11, li_12, li_13, li_14, li_15, li_16, li_20, li_24, li_28, li_31, li_35, li_38, li_40, li_41, li_45, li_48, li_60, li_62, li_63, li_97, li_100, li_104, li_105, li_120, li_124, li_127, li_180, li_239, li_240, li_255, li_256, li_300, li_400, li_960, li_1000000])
  · have k8' := k8 (su τ 0 (fun _ => nI 0)) hh.1.2.2
    exact bad (by simp (implicitDefEqProofs := false) (disch := omega) only [tX7_instance, k1, ↓bnd_e, ↓ob_s, ob_s, su_1, su_2, sl_1, sl_2, ↓ck_n, ck_n, ck_Z0, ck_Z1, c_lt, c_le, c_eq, ng_1, m_ne, m_en, m_lt, m_le, m_gt, m_ge, n_add, n_mul, n_sub, n_sm, n_pm, n_0m, n_cl, Nat.reduceEqDiff, ↓reduceIte, nle_T, nle_F, nlt_T, nlt_F, neq_F, neq_T, if_true, if_false, true_and, and_true, Nat.mul_zero, Nat.zero_add, Nat.add_zero, Nat.reduceAdd, Nat.reduceMul, Nat.reduceSub, li_0, li_1, li_2, li_3, li_4, li_5, li_6, li_7, li_8, li_9, li_10, li_11, li_12, li_13, li_14, li_15, li_16, li_20, li_24, li_28, li_31, li_35, li_38, li_40, li_41, li_45, li_48, li_60, li_62, li_63, li_97, li_100, li_104, li_105, li_120, li_124, li_127, li_180, li_239, li_240, li_255, li_256, li_300, li_400, li_960, li_1000000]) (by simp (implicitDefEqProofs := false) (disch := omega) only [mX8_instance, mX8_instance_31, mX8_no, k8', ↓bnd_e, ↓ob_s, ob_s, su_1, su_2, sl_1, sl_2, ↓ck_n, ck_n, ck_Z0, ck_Z1, c_lt, c_le, c_eq, ng_1, m_ne, m_en, m_lt, m_le, m_gt, m_ge, n_add, n_mul, n_sub, n_sm, n_pm, n_0m, n_cl, Nat.reduceEqDiff, ↓reduceIte, nle_T, nle_F, nlt_T, nlt_F, neq_F, neq_T, if_true, if_false, true_and, and_true, Nat.mul_zero, Nat.zero_add, Nat.add_zero, Nat.reduceAdd, Nat.reduceMul, Nat.reduceSub, li_0, li_1, li_2, li_3, li_4, li_5, li_6, li_7, li_8, li_9, li_10, li_11, li_12, li_13, li_14, li_15, li_16, li_20, li_24, li_28, li_31, li_35, li_38, li_40, li_41, li_45, li_48, li_60, li_62, li_63, li_97, li_100, li_104, li_105, li_120, li_124, li_127, li_180, li_239, li_240, li_255, li_256, li_300, li_400, li_960, li_1000000])
