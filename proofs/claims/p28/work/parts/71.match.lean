/-- what a formula and what stands for it have to do with each other -/
def mtC (τ : St) (g : Nat → Int32) (p f : Nat) : Prop := τ.1 15 p = nI 0 ∨ (τ.1 15 p = τ.1 15 f ∧ (τ.1 15 p = nI 1 ∨
  (g (τ.1 16 p).toNatClampNeg = τ.1 16 f ∧ (τ.1 15 p = nI 2 ∨ g (τ.1 17 p).toNatClampNeg = τ.1 17 f))))
def mtP (F : Nat) (g : Nat → Int32) : Prop := ∀ p, p < F → g p = mI ∨ ∃ f, f < F ∧ g p = nI f
def mtG (F : Nat) (τ : St) (g : Nat → Int32) : Prop := mtP F g ∧ ∀ p f, p < F → f < F → g p = nI f → mtC τ g p f
def mtS (F : Nat) (g g' : Nat → Int32) : Prop := ∀ p f, p < F → f < F → g p = nI f → g' p = nI f
theorem mtS.rf {F : Nat} {g : Nat → Int32} : mtS F g g := fun _ _ _ _ h => h
theorem mtS.tr {F : Nat} {g g' g'' : Nat → Int32} (h : mtS F g g') (h' : mtS F g' g'') : mtS F g g'' := fun p f a b c => h' p f a b (h p f a b c)
theorem mt_parts {F : Nat} {σ τ : St} (h : RF F σ τ) {p f : Nat} (hp : p < F) (hf : f < F) (e : τ.1 15 p = τ.1 15 f) : τ.1 15 p = nI 0 ∨ τ.1 15 p = nI 1 ∨
    (τ.1 15 p = nI 2 ∧ ∃ a b, a < p ∧ b < F ∧ τ.1 16 p = nI a ∧ τ.1 16 f = nI b) ∨
    (∃ s, 3 ≤ s ∧ s ≤ 5 ∧ τ.1 15 p = nI s ∧ ∃ a b c d, a < p ∧ b < F ∧ c < p ∧ d < F ∧ τ.1 16 p = nI a ∧ τ.1 16 f = nI b ∧ τ.1 17 p = nI c ∧ τ.1 17 f = nI d) := by
  have hF := h.le
  obtain ⟨s, s5, e1, _, ag⟩ := h.st hp
  obtain ⟨s', s5', e1', _, ag'⟩ := h.st hf
  rw [e1, e1', c_eq (by omega) (by omega)] at e
  subst e
  rcases ag with ⟨rfl, _⟩ | ⟨rfl, _⟩ | ⟨rfl, a, ha, x1, x2⟩ | ⟨h3, h5, a, c, ha, hc, x1, x2⟩
  · exact Or.inl e1
  · exact Or.inr (Or.inl e1)
  · rcases ag' with ⟨q, _⟩ | ⟨q, _⟩ | ⟨_, b, hb, y1, y2⟩ | ⟨q, _⟩
    · omega
    · omega
    · exact Or.inr (Or.inr (Or.inl ⟨e1, a, b, ha, by omega, x1, y1⟩))
    · omega
  · rcases ag' with ⟨q, _⟩ | ⟨q, _⟩ | ⟨q, _⟩ | ⟨_, _, b, d, hb, hd, y1, y2⟩
    · omega
    · omega
    · omega
    · exact Or.inr (Or.inr (Or.inr ⟨s, h3, h5, e1, a, b, c, d, ha, by omega, hc, by omega, x1, y1, x2, y2⟩))
theorem mtC.mono {F : Nat} {σ τ : St} (h : RF F σ τ) {g g' : Nat → Int32} (hs : mtS F g g') {p f : Nat} (hp : p < F) (hf : f < F) (hc : mtC τ g p f) : mtC τ g' p f := by
  have hF := h.le
  rcases hc with h0 | ⟨e, h1 | ⟨h2, h3⟩⟩
  · exact Or.inl h0
  · exact Or.inr ⟨e, Or.inl h1⟩
  · rcases mt_parts h hp hf e with q | q | ⟨q, a, b, ha, hb, x1, x2⟩ | ⟨s, s3, s5, q, a, b, c, d, ha, hb, hc, hd, x1, x2, x3, x4⟩
    · exact Or.inl q
    · exact Or.inr ⟨e, Or.inl q⟩
    · rw [x1, x2, n_cl (by omega)] at h2
      refine Or.inr ⟨e, Or.inr ⟨?_, Or.inl q⟩⟩
      rw [x1, x2, n_cl (by omega)]
      exact hs a b (by omega) hb h2
    · rw [x1, x2, n_cl (by omega)] at h2
      rw [x3, x4, n_cl (by omega)] at h3
      refine Or.inr ⟨e, Or.inr ⟨?_, Or.inr ?_⟩⟩
      · rw [x1, x2, n_cl (by omega)]
        exact hs a b (by omega) hb h2
      · rw [x3, x4, n_cl (by omega)]
        rcases h3 with h3 | h3
        · rw [q, c_eq (by omega) (by omega)] at h3; omega
        · exact hs c d (by omega) hd h3
theorem mt_set {F : Nat} {σ τ : St} (h : RF F σ τ) {g : Nat → Int32} (hg : mtG F τ g) {p f : Nat} (hp : p < F) (hf : f < F) (h0 : g p = mI) (hc : mtC τ g p f) :
    mtG F τ (upd g p (nI f)) ∧ mtS F g (upd g p (nI f)) ∧ ∀ φ, mtS F g φ → φ p = nI f → mtS F (upd g p (nI f)) φ := by
  have hF := h.le
  have hs : mtS F g (upd g p (nI f)) := fun q v hq hv e => by
    have : q ≠ p := fun e2 => by rw [e2, h0, m_en (by omega)] at e; exact e
    rw [pk_un this]; exact e
  refine ⟨⟨fun q hq => ?_, fun q v hq hv e => ?_⟩, hs, fun φ h1 h2 q v hq hv e => ?_⟩
  · by_cases e : q = p
    · rw [e, pk_us]; exact Or.inr ⟨f, hf, rfl⟩
    · rw [pk_un e]; exact hg.1 q hq
  · by_cases e2 : q = p
    · subst e2
      rw [pk_us, c_eq (by omega) (by omega)] at e
      subst e
      exact hc.mono h hs hq hv
    · rw [pk_un e2] at e
      exact (hg.2 q v hq hv e).mono h hs hq hv
  · by_cases e2 : q = p
    · subst e2
      rw [pk_us] at e; rw [h2]; exact e
    · rw [pk_un e2] at e
      exact h1 q v hq hv e
/-- the reference's matching -/
theorem m8_becomes {F : Nat} {σ τ : St} (h : RF F σ τ) : ∀ n p f (t : St), p < F → f < F → p < n → KE [39] τ t → mtG F τ (t.1 39) →
    ∃ (b : Bool) (t' : St), gX8_becomes n t (nI p) (nI f) = some (zB b, t') ∧ KE [39] τ t' ∧ mtG F τ (t'.1 39) ∧ mtS F (t.1 39) (t'.1 39) ∧ (∀ q, p < q → t'.1 39 q = t.1 39 q) ∧ (b = true → t'.1 39 p = nI f) ∧
      ∀ φ, mtG F τ φ → mtS F (t.1 39) φ → φ p = nI f → b = true ∧ mtS F (t'.1 39) φ := by
  have hF := h.le
  intro n
  induction n with
  | zero => intro p f t _ _ hp; omega
  | succ n ih =>
    intro p f t hp hf hn hK hG
    have e15 := hK 15 (by decide)
    have e16 := hK 16 (by decide)
    have e17 := hK 17 (by decide)
    obtain ⟨sp, sp5, ep, _, agp⟩ := h.st hp
    obtain ⟨sf, sf5, ef, _, agf⟩ := h.st hf
    have unf : gX8_becomes (n + 1) t (nI p) (nI f) = bX8_becomes (gX8_becomes n) t (nI p) (nI f) := rfl
    rw [unf]
    rcases hG.1 p hp with h0 | ⟨g, hg, h0⟩
    · -- nothing stands for it yet
      have setr : ∀ (t1 : St), KE [39] τ t1 → mtG F τ (t1.1 39) → mtS F (t.1 39) (t1.1 39) → (∀ q, p ≤ q → t1.1 39 q = t.1 39 q) → mtC τ (t1.1 39) p f → (∀ φ, mtG F τ φ → mtS F (t.1 39) φ → φ p = nI f → mtS F (t1.1 39) φ) →
          bX8_becomes (gX8_becomes n) t (nI p) (nI f) = some (nI 1, su t1 39 (upd (t1.1 39) p (nI f))) →
          ∃ (b : Bool) (t' : St), bX8_becomes (gX8_becomes n) t (nI p) (nI f) = some (zB b, t') ∧ KE [39] τ t' ∧ mtG F τ (t'.1 39) ∧ mtS F (t.1 39) (t'.1 39) ∧ (∀ q, p < q → t'.1 39 q = t.1 39 q) ∧ (b = true → t'.1 39 p = nI f) ∧
            ∀ φ, mtG F τ φ → mtS F (t.1 39) φ → φ p = nI f → b = true ∧ mtS F (t'.1 39) φ := by
        intro t1 k1 g1 s1 q1 c1 f1 e1
        obtain ⟨x1, x2, x3⟩ := mt_set h g1 hp hf ((q1 p (Nat.le_refl _)).trans h0) c1
        refine ⟨true, su t1 39 (upd (t1.1 39) p (nI f)), e1, k1.s (by decide), x1, s1.tr x2, fun q hq => ?_, fun _ => ?_, fun φ y1 y2 y3 => ⟨rfl, x3 φ (f1 φ y1 y2 y3) y3⟩⟩
        · rw [su_1, if_pos rfl, pk_un (by omega)]; exact q1 q (by omega)
        · rw [su_1, if_pos rfl, pk_us]
      have nor : ∀ (t1 : St), KE [39] τ t1 → mtG F τ (t1.1 39) → mtS F (t.1 39) (t1.1 39) → (∀ q, p ≤ q → t1.1 39 q = t.1 39 q) → (∀ φ, mtG F τ φ → mtS F (t.1 39) φ → φ p = nI f → False) →
          bX8_becomes (gX8_becomes n) t (nI p) (nI f) = some (nI 0, t1) →
          ∃ (b : Bool) (t' : St), bX8_becomes (gX8_becomes n) t (nI p) (nI f) = some (zB b, t') ∧ KE [39] τ t' ∧ mtG F τ (t'.1 39) ∧ mtS F (t.1 39) (t'.1 39) ∧ (∀ q, p < q → t'.1 39 q = t.1 39 q) ∧ (b = true → t'.1 39 p = nI f) ∧
            ∀ φ, mtG F τ φ → mtS F (t.1 39) φ → φ p = nI f → b = true ∧ mtS F (t'.1 39) φ := by
        intro t1 k1 g1 s1 q1 f1 e1
        exact ⟨false, t1, e1, k1, g1, s1, fun q hq => q1 q (by omega), fun h => absurd h (by decide), fun φ y1 y2 y3 => (f1 φ y1 y2 y3).elim⟩
      by_cases z : sp = 0
      · subst z
        refine setr t hK hG mtS.rf (fun _ _ => rfl) (Or.inl ep) (fun φ _ y _ => y) ?_
        simp (implicitDefEqProofs := false) (disch := omega) only [bX8_becomes, mX8_becomes_108, mX8_becomes_113, h0, e15, ep, ↓bnd_e, ↓ob_s, ob_s, su_1, su_2, sl_1, sl_2, ↓ck_n, ck_n, ck_Z0, ck_Z1, c_lt, c_le, c_eq, ng_1, m_ne, m_en, m_lt, m_le, m_gt, m_ge, n_add, n_mul, n_sub, n_sm, n_pm, n_0m, n_cl, Nat.reduceEqDiff, ↓reduceIte, nle_T, nle_F, nlt_T, nlt_F, neq_F, neq_T, if_true, if_false, true_and, and_true, Nat.mul_zero, Nat.zero_add, Nat.add_zero, Nat.reduceAdd, Nat.reduceMul, Nat.reduceSub, li_0, li_1, li_2, li_3, li_4, li_5, li_6, li_7, li_8, li_9, li_10, li_11, li_12, li_13, li_14, li_15, li_16, li_20, li_24, li_28, li_31, li_35, li_38, li_40, li_41, li_45, li_48, li_60, li_62, li_63, li_97, li_100, li_104, li_105, li_120, li_124, li_127, li_180, li_239, li_240, li_255, li_256, li_300, li_400, li_960, li_1000000]
      · by_cases z2 : sp = sf
        · subst z2
          have eq : τ.1 15 p = τ.1 15 f := ep.trans ef.symm
          rcases mt_parts h hp hf eq with q | q | ⟨q, a, b, ha, hb, x1, x2⟩ | ⟨s, s3, s5, q, a, b, c, d, ha, hb, hc, hd, x1, x2, x3, x4⟩
          · rw [ep, c_eq (by omega) (by omega)] at q; omega
          · have q' := q
            rw [ep, c_eq (by omega) (by omega)] at q'
            subst q'
            refine setr t hK hG mtS.rf (fun _ _ => rfl) (Or.inr ⟨eq, Or.inl q⟩) (fun φ _ y _ => y) ?_
            simp (implicitDefEqProofs := false) (disch := omega) only [bX8_becomes, mX8_becomes_108, mX8_becomes_113, h0, e15, ep, ef, ↓bnd_e, ↓ob_s, ob_s, su_1, su_2, sl_1, sl_2, ↓ck_n, ck_n, ck_Z0, ck_Z1, c_lt, c_le, c_eq, ng_1, m_ne, m_en, m_lt, m_le, m_gt, m_ge, n_add, n_mul, n_sub, n_sm, n_pm, n_0m, n_cl, Nat.reduceEqDiff, ↓reduceIte, nle_T, nle_F, nlt_T, nlt_F, neq_F, neq_T, if_true, if_false, true_and, and_true, Nat.mul_zero, Nat.zero_add, Nat.add_zero, Nat.reduceAdd, Nat.reduceMul, Nat.reduceSub, li_0, li_1, li_2, li_3, li_4, li_5, li_6, li_7, li_8, li_9, li_10, li_11, li_12, li_13, li_14, li_15, li_16, li_20, li_24, li_28, li_31, li_35, li_38, li_40, li_41, li_45, li_48, li_60, li_62, li_63, li_97, li_100, li_104, li_105, li_120, li_124, li_127, li_180, li_239, li_240, li_255, li_256, li_300, li_400, li_960, li_1000000]
          · have q' := q
            rw [ep, c_eq (by omega) (by omega)] at q'
            subst q'
            obtain ⟨b1, t1, r1, r2, r3, r4, r5, r6, r7⟩ := ih a b t (by omega) hb (by omega) hK hG
            have f15 := r2 15 (by decide)
            have need : ∀ φ, mtG F τ φ → φ p = nI f → φ a = nI b := fun φ y1 y3 => by
              rcases y1.2 p f hp hf y3 with w | ⟨_, w | ⟨w, _⟩⟩
              · rw [q, c_eq (by omega) (by omega)] at w; omega
              · rw [q, c_eq (by omega) (by omega)] at w; omega
              · rw [x1, x2, n_cl (by omega)] at w; exact w
            cases b1
            · rw [zB_0] at r1
              refine nor t1 r2 r3 r4 (fun q hq => r5 q (by omega)) (fun φ y1 y2 y3 => by have := (r7 φ y1 y2 (need φ y1 y3)).1; exact absurd this (by decide)) ?_
              simp (implicitDefEqProofs := false) (disch := omega) only [bX8_becomes, mX8_becomes_112, mX8_becomes_113, h0, e15, e16, ep, ef, x1, x2, r1, ↓bnd_e, ↓ob_s, ob_s, su_1, su_2, sl_1, sl_2, ↓ck_n, ck_n, ck_Z0, ck_Z1, c_lt, c_le, c_eq, ng_1, m_ne, m_en, m_lt, m_le, m_gt, m_ge, n_add, n_mul, n_sub, n_sm, n_pm, n_0m, n_cl, Nat.reduceEqDiff, ↓reduceIte, nle_T, nle_F, nlt_T, nlt_F, neq_F, neq_T, if_true, if_false, true_and, and_true, Nat.mul_zero, Nat.zero_add, Nat.add_zero, Nat.reduceAdd, Nat.reduceMul, Nat.reduceSub, li_0, li_1, li_2, li_3, li_4, li_5, li_6, li_7, li_8, li_9, li_10, li_11, li_12, li_13, li_14, li_15, li_16, li_20, li_24, li_28, li_31, li_35, li_38, li_40, li_41, li_45, li_48, li_60, li_62, li_63, li_97, li_100, li_104, li_105, li_120, li_124, li_127, li_180, li_239, li_240, li_255, li_256, li_300, li_400, li_960, li_1000000]
            · rw [zB_1] at r1
              refine setr t1 r2 r3 r4 (fun q hq => r5 q (by omega)) (Or.inr ⟨eq, Or.inr ⟨?_, Or.inl q⟩⟩) (fun φ y1 y2 y3 => (r7 φ y1 y2 (need φ y1 y3)).2) ?_
              · rw [x1, x2, n_cl (by omega)]; exact r6 rfl
              · simp (implicitDefEqProofs := false) (disch := omega) only [bX8_becomes, mX8_becomes_108, mX8_becomes_113, h0, e15, e16, ep, ef, x1, x2, r1, f15, ↓bnd_e, ↓ob_s, ob_s, su_1, su_2, sl_1, sl_2, ↓ck_n, ck_n, ck_Z0, ck_Z1, c_lt, c_le, c_eq, ng_1, m_ne, m_en, m_lt, m_le, m_gt, m_ge, n_add, n_mul, n_sub, n_sm, n_pm, n_0m, n_cl, Nat.reduceEqDiff, ↓reduceIte, nle_T, nle_F, nlt_T, nlt_F, neq_F, neq_T, if_true, if_false, true_and, and_true, Nat.mul_zero, Nat.zero_add, Nat.add_zero, Nat.reduceAdd, Nat.reduceMul, Nat.reduceSub, li_0, li_1, li_2, li_3, li_4, li_5, li_6, li_7, li_8, li_9, li_10, li_11, li_12, li_13, li_14, li_15, li_16, li_20, li_24, li_28, li_31, li_35, li_38, li_40, li_41, li_45, li_48, li_60, li_62, li_63, li_97, li_100, li_104, li_105, li_120, li_124, li_127, li_180, li_239, li_240, li_255, li_256, li_300, li_400, li_960, li_1000000]
          · have q' := q
            rw [ep, c_eq (by omega) (by omega)] at q'
            subst q'
            obtain ⟨b1, t1, r1, r2, r3, r4, r5, r6, r7⟩ := ih a b t (by omega) hb (by omega) hK hG
            have f15 := r2 15 (by decide)
            have f17 := r2 17 (by decide)
            have need : ∀ φ, mtG F τ φ → φ p = nI f → φ a = nI b ∧ φ c = nI d := fun φ y1 y3 => by
              rcases y1.2 p f hp hf y3 with w | ⟨_, w | ⟨w, w2⟩⟩
              · rw [q, c_eq (by omega) (by omega)] at w; omega
              · rw [q, c_eq (by omega) (by omega)] at w; omega
              · rw [x1, x2, n_cl (by omega)] at w
                rcases w2 with w2 | w2
                · rw [q, c_eq (by omega) (by omega)] at w2; omega
                · rw [x3, x4, n_cl (by omega)] at w2; exact ⟨w, w2⟩
            cases b1
            · rw [zB_0] at r1
              refine nor t1 r2 r3 r4 (fun q hq => r5 q (by omega)) (fun φ y1 y2 y3 => by have := (r7 φ y1 y2 (need φ y1 y3).1).1; exact absurd this (by decide)) ?_
              simp (implicitDefEqProofs := false) (disch := omega) only [bX8_becomes, mX8_becomes_112, mX8_becomes_113, h0, e15, e16, ep, ef, x1, x2, r1, ↓bnd_e, ↓ob_s, ob_s, su_1, su_2, sl_1, sl_2, ↓ck_n, ck_n, ck_Z0, ck_Z1, c_lt, c_le, c_eq, ng_1, m_ne, m_en, m_lt, m_le, m_gt, m_ge, n_add, n_mul, n_sub, n_sm, n_pm, n_0m, n_cl, Nat.reduceEqDiff, ↓reduceIte, nle_T, nle_F, nlt_T, nlt_F, neq_F, neq_T, if_true, if_false, true_and, and_true, Nat.mul_zero, Nat.zero_add, Nat.add_zero, Nat.reduceAdd, Nat.reduceMul, Nat.reduceSub, li_0, li_1, li_2, li_3, li_4, li_5, li_6, li_7, li_8, li_9, li_10, li_11, li_12, li_13, li_14, li_15, li_16, li_20, li_24, li_28, li_31, li_35, li_38, li_40, li_41, li_45, li_48, li_60, li_62, li_63, li_97, li_100, li_104, li_105, li_120, li_124, li_127, li_180, li_239, li_240, li_255, li_256, li_300, li_400, li_960, li_1000000]
            · rw [zB_1] at r1
              obtain ⟨b2, t2, u1, u2, u3, u4, u5, u6, u7⟩ := ih c d t1 (by omega) hd (by omega) r2 r3
              cases b2
              · rw [zB_0] at u1
                refine nor t2 u2 u3 (r4.tr u4) (fun q hq => (u5 q (by omega)).trans (r5 q (by omega))) (fun φ y1 y2 y3 => by have := (u7 φ y1 (r7 φ y1 y2 (need φ y1 y3).1).2 (need φ y1 y3).2).1; exact absurd this (by decide)) ?_
                simp (implicitDefEqProofs := false) (disch := omega) only [bX8_becomes, mX8_becomes_112, mX8_becomes_113, h0, e15, e16, ep, ef, x1, x2, r1, f15, f17, x3, x4, u1, ↓bnd_e, ↓ob_s, ob_s, su_1, su_2, sl_1, sl_2, ↓ck_n, ck_n, ck_Z0, ck_Z1, c_lt, c_le, c_eq, ng_1, m_ne, m_en, m_lt, m_le, m_gt, m_ge, n_add, n_mul, n_sub, n_sm, n_pm, n_0m, n_cl, Nat.reduceEqDiff, ↓reduceIte, nle_T, nle_F, nlt_T, nlt_F, neq_F, neq_T, if_true, if_false, true_and, and_true, Nat.mul_zero, Nat.zero_add, Nat.add_zero, Nat.reduceAdd, Nat.reduceMul, Nat.reduceSub, li_0, li_1, li_2, li_3, li_4, li_5, li_6, li_7, li_8, li_9, li_10, li_11, li_12, li_13, li_14, li_15, li_16, li_20, li_24, li_28, li_31, li_35, li_38, li_40, li_41, li_45, li_48, li_60, li_62, li_63, li_97, li_100, li_104, li_105, li_120, li_124, li_127, li_180, li_239, li_240, li_255, li_256, li_300, li_400, li_960, li_1000000]
              · rw [zB_1] at u1
                refine setr t2 u2 u3 (r4.tr u4) (fun q hq => (u5 q (by omega)).trans (r5 q (by omega))) (Or.inr ⟨eq, Or.inr ⟨?_, Or.inr ?_⟩⟩) (fun φ y1 y2 y3 => (u7 φ y1 (r7 φ y1 y2 (need φ y1 y3).1).2 (need φ y1 y3).2).2) ?_
                · rw [x1, x2, n_cl (by omega)]; exact u4 a b (by omega) hb (r6 rfl)
                · rw [x3, x4, n_cl (by omega)]; exact u6 rfl
                · simp (implicitDefEqProofs := false) (disch := omega) only [bX8_becomes, mX8_becomes_108, mX8_becomes_113, h0, e15, e16, ep, ef, x1, x2, r1, f15, f17, x3, x4, u1, ↓bnd_e, ↓ob_s, ob_s, su_1, su_2, sl_1, sl_2, ↓ck_n, ck_n, ck_Z0, ck_Z1, c_lt, c_le, c_eq, ng_1, m_ne, m_en, m_lt, m_le, m_gt, m_ge, n_add, n_mul, n_sub, n_sm, n_pm, n_0m, n_cl, Nat.reduceEqDiff, ↓reduceIte, nle_T, nle_F, nlt_T, nlt_F, neq_F, neq_T, if_true, if_false, true_and, and_true, Nat.mul_zero, Nat.zero_add, Nat.add_zero, Nat.reduceAdd, Nat.reduceMul, Nat.reduceSub, li_0, li_1, li_2, li_3, li_4, li_5, li_6, li_7, li_8, li_9, li_10, li_11, li_12, li_13, li_14, li_15, li_16, li_20, li_24, li_28, li_31, li_35, li_38, li_40, li_41, li_45, li_48, li_60, li_62, li_63, li_97, li_100, li_104, li_105, li_120, li_124, li_127, li_180, li_239, li_240, li_255, li_256, li_300, li_400, li_960, li_1000000]
        · refine nor t hK hG mtS.rf (fun _ _ => rfl) (fun φ y1 y2 y3 => ?_) ?_
          · rcases y1.2 p f hp hf y3 with w | ⟨w, _⟩
            · rw [ep, c_eq (by omega) (by omega)] at w; omega
            · rw [ep, ef, c_eq (by omega) (by omega)] at w; omega
          · simp (implicitDefEqProofs := false) (disch := omega) only [bX8_becomes, mX8_becomes_112, mX8_becomes_113, h0, e15, ep, ef, ↓bnd_e, ↓ob_s, ob_s, su_1, su_2, sl_1, sl_2, ↓ck_n, ck_n, ck_Z0, ck_Z1, c_lt, c_le, c_eq, ng_1, m_ne, m_en, m_lt, m_le, m_gt, m_ge, n_add, n_mul, n_sub, n_sm, n_pm, n_0m, n_cl, Nat.reduceEqDiff, ↓reduceIte, nle_T, nle_F, nlt_T, nlt_F, neq_F, neq_T, if_true, if_false, true_and, and_true, Nat.mul_zero, Nat.zero_add, Nat.add_zero, Nat.reduceAdd, Nat.reduceMul, Nat.reduceSub, li_0, li_1, li_2, li_3, li_4, li_5, li_6, li_7, li_8, li_9, li_10, li_11, li_12, li_13, li_14, li_15, li_16, li_20, li_24, li_28, li_31, li_35, li_38, li_40, li_41, li_45, li_48, li_60, li_62, li_63, li_97, li_100, li_104, li_105, li_120, li_124, li_127, li_180, li_239, li_240, li_255, li_256, li_300, li_400, li_960, li_1000000]
    · by_cases e : g = f
      · subst e
        refine ⟨true, t, ?_, hK, hG, mtS.rf, fun _ _ => rfl, fun _ => h0, fun φ _ y2 _ => ⟨rfl, y2⟩⟩
        rw [zB_1]
        simp (implicitDefEqProofs := false) (disch := omega) only [bX8_becomes, h0, ↓bnd_e, ↓ob_s, ob_s, su_1, su_2, sl_1, sl_2, ↓ck_n, ck_n, ck_Z0, ck_Z1, c_lt, c_le, c_eq, ng_1, m_ne, m_en, m_lt, m_le, m_gt, m_ge, n_add, n_mul, n_sub, n_sm, n_pm, n_0m, n_cl, Nat.reduceEqDiff, ↓reduceIte, nle_T, nle_F, nlt_T, nlt_F, neq_F, neq_T, if_true, if_false, true_and, and_true, Nat.mul_zero, Nat.zero_add, Nat.add_zero, Nat.reduceAdd, Nat.reduceMul, Nat.reduceSub, li_0, li_1, li_2, li_3, li_4, li_5, li_6, li_7, li_8, li_9, li_10, li_11, li_12, li_13, li_14, li_15, li_16, li_20, li_24, li_28, li_31, li_35, li_38, li_40, li_41, li_45, li_48, li_60, li_62, li_63, li_97, li_100, li_104, li_105, li_120, li_124, li_127, li_180, li_239, li_240, li_255, li_256, li_300, li_400, li_960, li_1000000]
      · refine ⟨false, t, ?_, hK, hG, mtS.rf, fun _ _ => rfl, fun h => absurd h (by decide), fun φ _ y2 y3 => ?_⟩
        · rw [zB_0]
          simp (implicitDefEqProofs := false) (disch := omega) only [bX8_becomes, h0, ↓bnd_e, ↓ob_s, ob_s, su_1, su_2, sl_1, sl_2, ↓ck_n, ck_n, ck_Z0, ck_Z1, c_lt, c_le, c_eq, ng_1, m_ne, m_en, m_lt, m_le, m_gt, m_ge, n_add, n_mul, n_sub, n_sm, n_pm, n_0m, n_cl, Nat.reduceEqDiff, ↓reduceIte, nle_T, nle_F, nlt_T, nlt_F, neq_F, neq_T, if_true, if_false, true_and, and_true, Nat.mul_zero, Nat.zero_add, Nat.add_zero, Nat.reduceAdd, Nat.reduceMul, Nat.reduceSub, li_0, li_1, li_2, li_3, li_4, li_5, li_6, li_7, li_8, li_9, li_10, li_11, li_12, li_13, li_14, li_15, li_16, li_20, li_24, li_28, li_31, li_35, li_38, li_40, li_41, li_45, li_48, li_60, li_62, li_63, li_97, li_100, li_104, li_105, li_120, li_124, li_127, li_180, li_239, li_240, li_255, li_256, li_300, li_400, li_960, li_1000000]
        · have := y2 p g hp hg h0
          rw [y3, c_eq (by omega) (by omega)] at this
          exact absurd this.symm e
/-- the class's matching, one step -/
theorem m6_becomes {F : Nat} (hF : F ≤ 240) {σ s : St} {p f : Nat} (hp : p < F) (hf : f < F) (hK : KE [28] σ s) (hP : mtP F (s.1 28)) :
    ∃ (b : Bool) (s' : St), mX6_becomes s (nI p) (nI f) = some (zB b, s') ∧ KE [28] σ s' ∧ s'.2 = s.2 ∧ mtP F (s'.1 28) ∧ mtS F (s.1 28) (s'.1 28) ∧ (∀ q, q ≠ p → s'.1 28 q = s.1 28 q) ∧ (b = true → s'.1 28 p = nI f) ∧
      ∀ φ, mtS F (s.1 28) φ → φ p = nI f → b = true ∧ mtS F (s'.1 28) φ := by
  rcases hP p hp with h0 | ⟨g, hg, h0⟩
  · refine ⟨true, su s 28 (upd (s.1 28) p (nI f)), ?_, hK.s (by decide), rfl, fun q hq => ?_, fun q v hq hv e => ?_, fun q hq => ?_, fun _ => ?_, fun φ y1 y2 => ⟨rfl, fun q v hq hv e => ?_⟩⟩
    · rw [zB_1]
      simp (implicitDefEqProofs := false) (disch := omega) only [mX6_becomes, mX6_becomes_29, h0, up_1, ↓bnd_e, ↓ob_s, ob_s, su_1, su_2, sl_1, sl_2, ↓ck_n, ck_n, ck_Z0, ck_Z1, c_lt, c_le, c_eq, ng_1, m_ne, m_en, m_lt, m_le, m_gt, m_ge, n_add, n_mul, n_sub, n_sm, n_pm, n_0m, n_cl, Nat.reduceEqDiff, ↓reduceIte, nle_T, nle_F, nlt_T, nlt_F, neq_F, neq_T, if_true, if_false, true_and, and_true, Nat.mul_zero, Nat.zero_add, Nat.add_zero, Nat.reduceAdd, Nat.reduceMul, Nat.reduceSub, li_0, li_1, li_2, li_3, li_4, li_5, li_6, li_7, li_8, li_9, li_10, li_11, li_12, li_13, li_14, li_15, li_16, li_20, li_24, li_28, li_31, li_35, li_38, li_40, li_41, li_45, li_48, li_60, li_62, li_63, li_97, li_100, li_104, li_105, li_120, li_124, li_127, li_180, li_239, li_240, li_255, li_256, li_300, li_400, li_960, li_1000000]
    · rw [su_1, if_pos rfl]
      by_cases e : q = p
      · rw [e, pk_us]; exact Or.inr ⟨f, hf, rfl⟩
      · rw [pk_un e]; exact hP q hq
    · have : q ≠ p := fun e2 => by rw [e2, h0, m_en (by omega)] at e; exact e
      rw [su_1, if_pos rfl, pk_un this]; exact e
    · rw [su_1, if_pos rfl, pk_un hq]
    · rw [su_1, if_pos rfl, pk_us]
    · rw [su_1, if_pos rfl] at e
      by_cases e2 : q = p
      · subst e2; rw [pk_us] at e; rw [y2]; exact e
      · rw [pk_un e2] at e; exact y1 q v hq hv e
  · by_cases e : g = f
    · subst e
      refine ⟨true, s, ?_, hK, rfl, hP, mtS.rf, fun _ _ => rfl, fun _ => h0, fun φ y1 _ => ⟨rfl, y1⟩⟩
      rw [zB_1]
      simp (implicitDefEqProofs := false) (disch := omega) only [mX6_becomes, mX6_becomes_29, h0, ↓bnd_e, ↓ob_s, ob_s, su_1, su_2, sl_1, sl_2, ↓ck_n, ck_n, ck_Z0, ck_Z1, c_lt, c_le, c_eq, ng_1, m_ne, m_en, m_lt, m_le, m_gt, m_ge, n_add, n_mul, n_sub, n_sm, n_pm, n_0m, n_cl, Nat.reduceEqDiff, ↓reduceIte, nle_T, nle_F, nlt_T, nlt_F, neq_F, neq_T, if_true, if_false, true_and, and_true, Nat.mul_zero, Nat.zero_add, Nat.add_zero, Nat.reduceAdd, Nat.reduceMul, Nat.reduceSub, li_0, li_1, li_2, li_3, li_4, li_5, li_6, li_7, li_8, li_9, li_10, li_11, li_12, li_13, li_14, li_15, li_16, li_20, li_24, li_28, li_31, li_35, li_38, li_40, li_41, li_45, li_48, li_60, li_62, li_63, li_97, li_100, li_104, li_105, li_120, li_124, li_127, li_180, li_239, li_240, li_255, li_256, li_300, li_400, li_960, li_1000000]
    · refine ⟨false, s, ?_, hK, rfl, hP, mtS.rf, fun _ _ => rfl, fun h => absurd h (by decide), fun φ y1 y2 => ?_⟩
      · rw [zB_0]
        simp (implicitDefEqProofs := false) (disch := omega) only [mX6_becomes, mX6_becomes_29, h0, ↓bnd_e, ↓ob_s, ob_s, su_1, su_2, sl_1, sl_2, ↓ck_n, ck_n, ck_Z0, ck_Z1, c_lt, c_le, c_eq, ng_1, m_ne, m_en, m_lt, m_le, m_gt, m_ge, n_add, n_mul, n_sub, n_sm, n_pm, n_0m, n_cl, Nat.reduceEqDiff, ↓reduceIte, nle_T, nle_F, nlt_T, nlt_F, neq_F, neq_T, if_true, if_false, true_and, and_true, Nat.mul_zero, Nat.zero_add, Nat.add_zero, Nat.reduceAdd, Nat.reduceMul, Nat.reduceSub, li_0, li_1, li_2, li_3, li_4, li_5, li_6, li_7, li_8, li_9, li_10, li_11, li_12, li_13, li_14, li_15, li_16, li_20, li_24, li_28, li_31, li_35, li_38, li_40, li_41, li_45, li_48, li_60, li_62, li_63, li_97, li_100, li_104, li_105, li_120, li_124, li_127, li_180, li_239, li_240, li_255, li_256, li_300, li_400, li_960, li_1000000]
      · have := y1 p g hp hg h0
        rw [y2, c_eq (by omega) (by omega)] at this
        exact absurd this.symm e
theorem gn_left {σ : St} {F j s a : Nat} (h0 : σ.1 0 0 = nI F) (hF : F ≤ 240) (hj : j < F) (hs : σ.1 12 j = nI s) (h2 : 2 ≤ s) (h5 : s ≤ 5) (ha : σ.1 13 j = nI a) : mX1_left σ (nI j) = some (nI a) := by
  simp (implicitDefEqProofs := false) (disch := omega) only [mX1_left, h0, hs, ha, ↓bnd_e, ↓ob_s, ob_s, su_1, su_2, sl_1, sl_2, ↓ck_n, ck_n, ck_Z0, ck_Z1, c_lt, c_le, c_eq, ng_1, m_ne, m_en, m_lt, m_le, m_gt, m_ge, n_add, n_mul, n_sub, n_sm, n_pm, n_0m, n_cl, Nat.reduceEqDiff, ↓reduceIte, nle_T, nle_F, nlt_T, nlt_F, neq_F, neq_T, if_true, if_false, true_and, and_true, Nat.mul_zero, Nat.zero_add, Nat.add_zero, Nat.reduceAdd, Nat.reduceMul, Nat.reduceSub, li_0, li_1, li_2, li_3, li_4, li_5, li_6, li_7, li_8, li_9, li_10, li_11, li_12, li_13, li_14, li_15, li_16, li_20, li_24, li_28, li_31, li_35, li_38, li_40, li_41, li_45, li_48, li_60, li_62, li_63, li_97, li_100, li_104, li_105, li_120, li_124, li_127, li_180, li_239, li_240, li_255, li_256, li_300, li_400, li_960, li_1000000]
theorem m6_parts {F : Nat} {σ τ s : St} (h : RF F σ τ) {p f : Nat} (hp : p < F) (hf : f < F) (hK : KE [28] σ s) (hP : mtP F (s.1 28)) :
    ∃ (b : Bool) (s' : St), mX6_partsBecome s (nI p) (nI f) = some (zB b, s') ∧ KE [28] σ s' ∧ s'.2 = s.2 ∧ mtP F (s'.1 28) ∧ mtS F (s.1 28) (s'.1 28) ∧ (∀ q, p ≤ q → s'.1 28 q = s.1 28 q) ∧ (b = true → mtC τ (s'.1 28) p f) ∧
      ∀ φ, mtG F τ φ → mtS F (s.1 28) φ → φ p = nI f → b = true ∧ mtS F (s'.1 28) φ := by
  have hF := h.le
  obtain ⟨sp, sp5, ep, cp, agp⟩ := h.st hp
  obtain ⟨sf, sf5, ef, cf, agf⟩ := h.st hf
  have h0 : s.1 0 0 = nI F := by rw [hK 0 (by decide)]; exact h.1.2.1
  have g12 := hK 12 (by decide)
  have g13 := hK 13 (by decide)
  have g14 := hK 14 (by decide)
  have f3 := h.f3
  have kp : mX1_sort s (nI p) = some (nI sp) := by rw [x1_sort h0 hF hp, g12, cp]
  have kf : mX1_sort s (nI f) = some (nI sf) := by rw [x1_sort h0 hF hf, g12, cf]
  have same : ∀ (c : Bool), mX6_partsBecome s (nI p) (nI f) = some (zB c, s) → (c = true → mtC τ (s.1 28) p f) → (∀ φ, mtG F τ φ → φ p = nI f → c = true) →
      ∃ (b : Bool) (s' : St), mX6_partsBecome s (nI p) (nI f) = some (zB b, s') ∧ KE [28] σ s' ∧ s'.2 = s.2 ∧ mtP F (s'.1 28) ∧ mtS F (s.1 28) (s'.1 28) ∧ (∀ q, p ≤ q → s'.1 28 q = s.1 28 q) ∧ (b = true → mtC τ (s'.1 28) p f) ∧
      ∀ φ, mtG F τ φ → mtS F (s.1 28) φ → φ p = nI f → b = true ∧ mtS F (s'.1 28) φ :=
    fun c e1 e2 e3 => ⟨c, s, e1, hK, rfl, hP, mtS.rf, fun _ _ => rfl, e2, fun φ y1 y2 y3 => ⟨e3 φ y1 y3, y2⟩⟩
  by_cases z : sp = 0
  · subst z
    refine same true ?_ (fun _ => Or.inl ep) (fun _ _ _ => rfl)
    rw [zB_1]
    simp (implicitDefEqProofs := false) (disch := omega) only [mX6_partsBecome, kp, ↓bnd_e, ↓ob_s, ob_s, su_1, su_2, sl_1, sl_2, ↓ck_n, ck_n, ck_Z0, ck_Z1, c_lt, c_le, c_eq, ng_1, m_ne, m_en, m_lt, m_le, m_gt, m_ge, n_add, n_mul, n_sub, n_sm, n_pm, n_0m, n_cl, Nat.reduceEqDiff, ↓reduceIte, nle_T, nle_F, nlt_T, nlt_F, neq_F, neq_T, if_true, if_false, true_and, and_true, Nat.mul_zero, Nat.zero_add, Nat.add_zero, Nat.reduceAdd, Nat.reduceMul, Nat.reduceSub, li_0, li_1, li_2, li_3, li_4, li_5, li_6, li_7, li_8, li_9, li_10, li_11, li_12, li_13, li_14, li_15, li_16, li_20, li_24, li_28, li_31, li_35, li_38, li_40, li_41, li_45, li_48, li_60, li_62, li_63, li_97, li_100, li_104, li_105, li_120, li_124, li_127, li_180, li_239, li_240, li_255, li_256, li_300, li_400, li_960, li_1000000]
  · by_cases z2 : sp = sf
    · subst z2
      have eq : τ.1 15 p = τ.1 15 f := ep.trans ef.symm
      rcases mt_parts h hp hf eq with q | q | ⟨q, a, b, ha, hb, x1, x2⟩ | ⟨s', s3, s5, q, a, b, c, d, ha, hb, hc, hd, x1, x2, x3, x4⟩
      · rw [ep, c_eq (by omega) (by omega)] at q; omega
      · have q' := q
        rw [ep, c_eq (by omega) (by omega)] at q'
        subst q'
        refine same true ?_ (fun _ => Or.inr ⟨eq, Or.inl q⟩) (fun _ _ _ => rfl)
        rw [zB_1]
        simp (implicitDefEqProofs := false) (disch := omega) only [mX6_partsBecome, mX6_partsBecome_55, kp, kf, ↓bnd_e, ↓ob_s, ob_s, su_1, su_2, sl_1, sl_2, ↓ck_n, ck_n, ck_Z0, ck_Z1, c_lt, c_le, c_eq, ng_1, m_ne, m_en, m_lt, m_le, m_gt, m_ge, n_add, n_mul, n_sub, n_sm, n_pm, n_0m, n_cl, Nat.reduceEqDiff, ↓reduceIte, nle_T, nle_F, nlt_T, nlt_F, neq_F, neq_T, if_true, if_false, true_and, and_true, Nat.mul_zero, Nat.zero_add, Nat.add_zero, Nat.reduceAdd, Nat.reduceMul, Nat.reduceSub, li_0, li_1, li_2, li_3, li_4, li_5, li_6, li_7, li_8, li_9, li_10, li_11, li_12, li_13, li_14, li_15, li_16, li_20, li_24, li_28, li_31, li_35, li_38, li_40, li_41, li_45, li_48, li_60, li_62, li_63, li_97, li_100, li_104, li_105, li_120, li_124, li_127, li_180, li_239, li_240, li_255, li_256, li_300, li_400, li_960, li_1000000]
      · have q' := q
        rw [ep, c_eq (by omega) (by omega)] at q'
        subst q'
        have lp : mX1_left s (nI p) = some (nI a) := gn_left h0 hF hp (by rw [g12]; exact cp) (by omega) (by omega) (by rw [g13, (f3 p hp).2.1]; exact x1)
        have lf : mX1_left s (nI f) = some (nI b) := gn_left h0 hF hf (by rw [g12]; exact cf) (by omega) (by omega) (by rw [g13, (f3 f hf).2.1]; exact x2)
        have need : ∀ φ, mtG F τ φ → φ p = nI f → φ a = nI b := fun φ y1 y3 => by
          rcases y1.2 p f hp hf y3 with w | ⟨_, w | ⟨w, _⟩⟩
          · rw [q, c_eq (by omega) (by omega)] at w; omega
          · rw [q, c_eq (by omega) (by omega)] at w; omega
          · rw [x1, x2, n_cl (by omega)] at w; exact w
        obtain ⟨b1, t1, r1, r2, r3, r4, r5, r6, r7, r8⟩ := m6_becomes hF (show a < F by omega) hb hK hP
        refine ⟨b1, t1, ?_, r2, r3, r4, r5, fun q hq => r6 q (by omega), fun hb1 => Or.inr ⟨eq, Or.inr ⟨?_, Or.inl q⟩⟩, fun φ y1 y2 y3 => r8 φ y2 (need φ y1 y3)⟩
        · cases b1
          · rw [zB_0] at r1 ⊢
            simp (implicitDefEqProofs := false) (disch := omega) only [mX6_partsBecome, mX6_partsBecome_55, kp, kf, lp, lf, r1, ↓bnd_e, ↓ob_s, ob_s, su_1, su_2, sl_1, sl_2, ↓ck_n, ck_n, ck_Z0, ck_Z1, c_lt, c_le, c_eq, ng_1, m_ne, m_en, m_lt, m_le, m_gt, m_ge, n_add, n_mul, n_sub, n_sm, n_pm, n_0m, n_cl, Nat.reduceEqDiff, ↓reduceIte, nle_T, nle_F, nlt_T, nlt_F, neq_F, neq_T, if_true, if_false, true_and, and_true, Nat.mul_zero, Nat.zero_add, Nat.add_zero, Nat.reduceAdd, Nat.reduceMul, Nat.reduceSub, li_0, li_1, li_2, li_3, li_4, li_5, li_6, li_7, li_8, li_9, li_10, li_11, li_12, li_13, li_14, li_15, li_16, li_20, li_24, li_28, li_31, li_35, li_38, li_40, li_41, li_45, li_48, li_60, li_62, li_63, li_97, li_100, li_104, li_105, li_120, li_124, li_127, li_180, li_239, li_240, li_255, li_256, li_300, li_400, li_960, li_1000000]
          · rw [zB_1] at r1 ⊢
            simp (implicitDefEqProofs := false) (disch := omega) only [mX6_partsBecome, mX6_partsBecome_55, kp, kf, lp, lf, r1, ↓bnd_e, ↓ob_s, ob_s, su_1, su_2, sl_1, sl_2, ↓ck_n, ck_n, ck_Z0, ck_Z1, c_lt, c_le, c_eq, ng_1, m_ne, m_en, m_lt, m_le, m_gt, m_ge, n_add, n_mul, n_sub, n_sm, n_pm, n_0m, n_cl, Nat.reduceEqDiff, ↓reduceIte, nle_T, nle_F, nlt_T, nlt_F, neq_F, neq_T, if_true, if_false, true_and, and_true, Nat.mul_zero, Nat.zero_add, Nat.add_zero, Nat.reduceAdd, Nat.reduceMul, Nat.reduceSub, li_0, li_1, li_2, li_3, li_4, li_5, li_6, li_7, li_8, li_9, li_10, li_11, li_12, li_13, li_14, li_15, li_16, li_20, li_24, li_28, li_31, li_35, li_38, li_40, li_41, li_45, li_48, li_60, li_62, li_63, li_97, li_100, li_104, li_105, li_120, li_124, li_127, li_180, li_239, li_240, li_255, li_256, li_300, li_400, li_960, li_1000000]
        · rw [x1, x2, n_cl (by omega)]; exact r7 hb1
      · have q' := q
        rw [ep, c_eq (by omega) (by omega)] at q'
        subst q'
        have lp : mX1_left s (nI p) = some (nI a) := gn_left h0 hF hp (by rw [g12]; exact cp) (by omega) (by omega) (by rw [g13, (f3 p hp).2.1]; exact x1)
        have lf : mX1_left s (nI f) = some (nI b) := gn_left h0 hF hf (by rw [g12]; exact cf) (by omega) (by omega) (by rw [g13, (f3 f hf).2.1]; exact x2)
        have need : ∀ φ, mtG F τ φ → φ p = nI f → φ a = nI b ∧ φ c = nI d := fun φ y1 y3 => by
          rcases y1.2 p f hp hf y3 with w | ⟨_, w | ⟨w, w2⟩⟩
          · rw [q, c_eq (by omega) (by omega)] at w; omega
          · rw [q, c_eq (by omega) (by omega)] at w; omega
          · rw [x1, x2, n_cl (by omega)] at w
            rcases w2 with w2 | w2
            · rw [q, c_eq (by omega) (by omega)] at w2; omega
            · rw [x3, x4, n_cl (by omega)] at w2; exact ⟨w, w2⟩
        obtain ⟨b1, t1, r1, r2, r3, r4, r5, r6, r7, r8⟩ := m6_becomes hF (show a < F by omega) hb hK hP
        have h01 : t1.1 0 0 = nI F := by rw [r2 0 (by decide)]; exact h.1.2.1
        have np : mX1_second t1 (nI p) = some (nI c) := by rw [gn_second h01 hF hp, r2 14 (by decide), (f3 p hp).2.2, x3]
        have nf : mX1_second t1 (nI f) = some (nI d) := by rw [gn_second h01 hF hf, r2 14 (by decide), (f3 f hf).2.2, x4]
        cases b1
        · refine ⟨false, t1, ?_, r2, r3, r4, r5, fun q hq => r6 q (by omega), fun h => absurd h (by decide), fun φ y1 y2 y3 => by have := (r8 φ y2 (need φ y1 y3).1).1; exact absurd this (by decide)⟩
          rw [zB_0] at r1 ⊢
          simp (implicitDefEqProofs := false) (disch := omega) only [mX6_partsBecome, mX6_partsBecome_55, kp, kf, lp, lf, r1, ↓bnd_e, ↓ob_s, ob_s, su_1, su_2, sl_1, sl_2, ↓ck_n, ck_n, ck_Z0, ck_Z1, c_lt, c_le, c_eq, ng_1, m_ne, m_en, m_lt, m_le, m_gt, m_ge, n_add, n_mul, n_sub, n_sm, n_pm, n_0m, n_cl, Nat.reduceEqDiff, ↓reduceIte, nle_T, nle_F, nlt_T, nlt_F, neq_F, neq_T, if_true, if_false, true_and, and_true, Nat.mul_zero, Nat.zero_add, Nat.add_zero, Nat.reduceAdd, Nat.reduceMul, Nat.reduceSub, li_0, li_1, li_2, li_3, li_4, li_5, li_6, li_7, li_8, li_9, li_10, li_11, li_12, li_13, li_14, li_15, li_16, li_20, li_24, li_28, li_31, li_35, li_38, li_40, li_41, li_45, li_48, li_60, li_62, li_63, li_97, li_100, li_104, li_105, li_120, li_124, li_127, li_180, li_239, li_240, li_255, li_256, li_300, li_400, li_960, li_1000000]
        · rw [zB_1] at r1
          obtain ⟨b2, t2, u1, u2, u3, u4, u5, u6, u7, u8⟩ := m6_becomes hF (show c < F by omega) hd r2 r4
          refine ⟨b2, t2, ?_, u2, u3.trans r3, u4, r5.tr u5, fun q hq => (u6 q (by omega)).trans (r6 q (by omega)), fun hb2 => Or.inr ⟨eq, Or.inr ⟨?_, Or.inr ?_⟩⟩, fun φ y1 y2 y3 => u8 φ (r8 φ y2 (need φ y1 y3).1).2 (need φ y1 y3).2⟩
          · cases b2
            · rw [zB_0] at u1 ⊢
              simp (implicitDefEqProofs := false) (disch := omega) only [mX6_partsBecome, mX6_partsBecome_55, kp, kf, lp, lf, r1, np, nf, u1, ↓bnd_e, ↓ob_s, ob_s, su_1, su_2, sl_1, sl_2, ↓ck_n, ck_n, ck_Z0, ck_Z1, c_lt, c_le, c_eq, ng_1, m_ne, m_en, m_lt, m_le, m_gt, m_ge, n_add, n_mul, n_sub, n_sm, n_pm, n_0m, n_cl, Nat.reduceEqDiff, ↓reduceIte, nle_T, nle_F, nlt_T, nlt_F, neq_F, neq_T, if_true, if_false, true_and, and_true, Nat.mul_zero, Nat.zero_add, Nat.add_zero, Nat.reduceAdd, Nat.reduceMul, Nat.reduceSub, li_0, li_1, li_2, li_3, li_4, li_5, li_6, li_7, li_8, li_9, li_10, li_11, li_12, li_13, li_14, li_15, li_16, li_20, li_24, li_28, li_31, li_35, li_38, li_40, li_41, li_45, li_48, li_60, li_62, li_63, li_97, li_100, li_104, li_105, li_120, li_124, li_127, li_180, li_239, li_240, li_255, li_256, li_300, li_400, li_960, li_1000000]
            · rw [zB_1] at u1 ⊢
              simp (implicitDefEqProofs := false) (disch := omega) only [mX6_partsBecome, mX6_partsBecome_55, kp, kf, lp, lf, r1, np, nf, u1, ↓bnd_e, ↓ob_s, ob_s, su_1, su_2, sl_1, sl_2, ↓ck_n, ck_n, ck_Z0, ck_Z1, c_lt, c_le, c_eq, ng_1, m_ne, m_en, m_lt, m_le, m_gt, m_ge, n_add, n_mul, n_sub, n_sm, n_pm, n_0m, n_cl, Nat.reduceEqDiff, ↓reduceIte, nle_T, nle_F, nlt_T, nlt_F, neq_F, neq_T, if_true, if_false, true_and, and_true, Nat.mul_zero, Nat.zero_add, Nat.add_zero, Nat.reduceAdd, Nat.reduceMul, Nat.reduceSub, li_0, li_1, li_2, li_3, li_4, li_5, li_6, li_7, li_8, li_9, li_10, li_11, li_12, li_13, li_14, li_15, li_16, li_20, li_24, li_28, li_31, li_35, li_38, li_40, li_41, li_45, li_48, li_60, li_62, li_63, li_97, li_100, li_104, li_105, li_120, li_124, li_127, li_180, li_239, li_240, li_255, li_256, li_300, li_400, li_960, li_1000000]
          · rw [x1, x2, n_cl (by omega)]; exact u5 a b (by omega) hb (r7 rfl)
          · rw [x3, x4, n_cl (by omega)]; exact u7 hb2
    · refine same false ?_ (fun h => absurd h (by decide)) (fun φ y1 y3 => ?_)
      · rw [zB_0]
        simp (implicitDefEqProofs := false) (disch := omega) only [mX6_partsBecome, kp, kf, ↓bnd_e, ↓ob_s, ob_s, su_1, su_2, sl_1, sl_2, ↓ck_n, ck_n, ck_Z0, ck_Z1, c_lt, c_le, c_eq, ng_1, m_ne, m_en, m_lt, m_le, m_gt, m_ge, n_add, n_mul, n_sub, n_sm, n_pm, n_0m, n_cl, Nat.reduceEqDiff, ↓reduceIte, nle_T, nle_F, nlt_T, nlt_F, neq_F, neq_T, if_true, if_false, true_and, and_true, Nat.mul_zero, Nat.zero_add, Nat.add_zero, Nat.reduceAdd, Nat.reduceMul, Nat.reduceSub, li_0, li_1, li_2, li_3, li_4, li_5, li_6, li_7, li_8, li_9, li_10, li_11, li_12, li_13, li_14, li_15, li_16, li_20, li_24, li_28, li_31, li_35, li_38, li_40, li_41, li_45, li_48, li_60, li_62, li_63, li_97, li_100, li_104, li_105, li_120, li_124, li_127, li_180, li_239, li_240, li_255, li_256, li_300, li_400, li_960, li_1000000]
      · rcases y1.2 p f hp hf y3 with w | ⟨w, _⟩
        · rw [ep, c_eq (by omega) (by omega)] at w; omega
        · rw [ep, ef, c_eq (by omega) (by omega)] at w; omega
