theorem nar_b : ∀ c, c < 128 → vp_nar .byte (nI c).toInt8.toInt32 = nI c := by
  have h : ∀ c, c < 128 → (nI c).toInt8.toInt32 = nI c := by decide +kernel
  intro c hc
  rw [pk_vb]; exact h c hc
/-- what the draft gains -/
def APd (t t' : St) (D D' : Nat) (W : List Int32) : Prop := KE [12, 38] t t' ∧ t'.1 12 0 = nI D' ∧
  (D + W.length ≤ 400 → D' = D + W.length ∧ (∀ k, k < D → t'.1 38 k = t.1 38 k) ∧ ∀ i, i < W.length → W[i]? = some (t'.1 38 (D + i))) ∧ (400 < D + W.length → 400 < D')
theorem APd.tr {t t1 t2 : St} {D D1 D2 : Nat} {W W' : List Int32} (h : APd t t1 D D1 W) (h' : APd t1 t2 D1 D2 W') : APd t t2 D D2 (W ++ W') := by
  obtain ⟨a1, a2, a3, a4⟩ := h
  obtain ⟨b1, b2, b3, b4⟩ := h'
  refine ⟨a1.tr b1, b2, fun hl => ?_, fun hl => ?_⟩
  · rw [List.length_append] at hl
    obtain ⟨x1, x2, x3⟩ := a3 (by omega)
    subst x1
    obtain ⟨y1, y2, y3⟩ := b3 (by omega)
    refine ⟨by rw [List.length_append]; omega, fun k hk => (y2 k (by omega)).trans (x2 k hk), fun i hi => ?_⟩
    rw [List.length_append] at hi
    by_cases e : i < W.length
    · rw [List.getElem?_append_left e, x3 i e, y2 (D + i) (by omega)]
    · rw [List.getElem?_append_right (by omega), y3 (i - W.length) (by omega)]
      have e2 : D + W.length + (i - W.length) = D + i := by omega
      rw [e2]
  · rw [List.length_append] at hl
    by_cases e : 400 < D + W.length
    · have := a4 e
      exact b4 (by omega)
    · have := (a3 (by omega)).1
      exact b4 (by omega)
theorem APd.rf {t : St} {D : Nat} (h : t.1 12 0 = nI D) : APd t t D D [] := ⟨KE.rf, h, fun hl => ⟨rfl, fun _ _ => rfl, fun i hi => absurd hi (Nat.not_lt_zero i)⟩, fun hl => by simpa using hl⟩
theorem m8_p1 {t : St} {D : Nat} (h : t.1 12 0 = nI D) (hD : D < 100000) (x : Int32) : ∃ t', mX8_put t x = some t' ∧ APd t t' D (D + 1) [x] := by
  by_cases h4 : D < 400
  · refine ⟨su (su t 38 (upd (t.1 38) D x)) 12 (fun _ => nI (D + 1)), ?_, (KE.rf.s (by decide)).s (by decide), rfl, fun hl => ⟨rfl, fun k hk => ?_, fun i hi => ?_⟩, fun hl => ?_⟩
    · simp (implicitDefEqProofs := false) (disch := omega) only [mX8_put, mX8_put_20, h, ↓bnd_e, ↓ob_s, ob_s, su_1, su_2, sl_1, sl_2, ↓ck_n, ck_n, ck_Z0, ck_Z1, c_lt, c_le, c_eq, ng_1, m_ne, m_en, m_lt, m_le, m_gt, m_ge, n_add, n_mul, n_sub, n_sm, n_pm, n_0m, n_cl, Nat.reduceEqDiff, ↓reduceIte, nle_T, nle_F, nlt_T, nlt_F, neq_F, neq_T, if_true, if_false, true_and, and_true, Nat.mul_zero, Nat.zero_add, Nat.add_zero, Nat.reduceAdd, Nat.reduceMul, Nat.reduceSub, li_0, li_1, li_2, li_3, li_4, li_5, li_6, li_7, li_8, li_9, li_10, li_11, li_12, li_13, li_14, li_15, li_16, li_20, li_24, li_28, li_31, li_35, li_38, li_40, li_41, li_45, li_48, li_60, li_62, li_63, li_97, li_100, li_104, li_105, li_120, li_124, li_127, li_180, li_239, li_240, li_255, li_256, li_300, li_400, li_960, li_1000000]
    · show upd (t.1 38) D x k = _
      rw [pk_un (by omega)]
    · have : i = 0 := by
        have : [x].length = 1 := rfl
        omega
      subst this
      show some x = some (upd (t.1 38) D x D)
      rw [pk_us]
    · have : [x].length = 1 := rfl
      omega
  · refine ⟨su t 12 (fun _ => nI (D + 1)), ?_, KE.rf.s (by decide), rfl, fun hl => ?_, fun hl => by omega⟩
    · simp (implicitDefEqProofs := false) (disch := omega) only [mX8_put, mX8_put_20, h, ↓bnd_e, ↓ob_s, ob_s, su_1, su_2, sl_1, sl_2, ↓ck_n, ck_n, ck_Z0, ck_Z1, c_lt, c_le, c_eq, ng_1, m_ne, m_en, m_lt, m_le, m_gt, m_ge, n_add, n_mul, n_sub, n_sm, n_pm, n_0m, n_cl, Nat.reduceEqDiff, ↓reduceIte, nle_T, nle_F, nlt_T, nlt_F, neq_F, neq_T, if_true, if_false, true_and, and_true, Nat.mul_zero, Nat.zero_add, Nat.add_zero, Nat.reduceAdd, Nat.reduceMul, Nat.reduceSub, li_0, li_1, li_2, li_3, li_4, li_5, li_6, li_7, li_8, li_9, li_10, li_11, li_12, li_13, li_14, li_15, li_16, li_20, li_24, li_28, li_31, li_35, li_38, li_40, li_41, li_45, li_48, li_60, li_62, li_63, li_97, li_100, li_104, li_105, li_120, li_124, li_127, li_180, li_239, li_240, li_255, li_256, li_300, li_400, li_960, li_1000000]
    · have : [x].length = 1 := rfl
      omega
theorem br_app (b : Bool) (l : List Int32) : br b l = (if b then [nI 40] else []) ++ l ++ (if b then [nI 41] else []) := by
  cases b
  · simp [br]
  · simp [br]
/-- the close of a bracket -/
theorem m8_169 {F : St → Int32 → Int32 → Option St} {t : St} {D : Nat} (h : t.1 12 0 = nI D) (hD : D < 100000) (b : Bool) : ∃ t' D', mX8_put__169 F t (zB b) = some t' ∧ APd t t' D D' (if b then [nI 41] else []) ∧ D' ≤ D + 1 := by
  cases b
  · exact ⟨t, D, rfl, APd.rf h, by omega⟩
  · obtain ⟨t', e, a⟩ := m8_p1 h hD (nI 41)
    refine ⟨t', D + 1, ?_, a, by omega⟩
    simp (implicitDefEqProofs := false) (disch := omega) only [mX8_put__169, zB_1, e, ↓bnd_e, ↓ob_s, ob_s, su_1, su_2, sl_1, sl_2, ↓ck_n, ck_n, ck_Z0, ck_Z1, c_lt, c_le, c_eq, ng_1, m_ne, m_en, m_lt, m_le, m_gt, m_ge, n_add, n_mul, n_sub, n_sm, n_pm, n_0m, n_cl, Nat.reduceEqDiff, ↓reduceIte, nle_T, nle_F, nlt_T, nlt_F, neq_F, neq_T, if_true, if_false, true_and, and_true, Nat.mul_zero, Nat.zero_add, Nat.add_zero, Nat.reduceAdd, Nat.reduceMul, Nat.reduceSub, li_0, li_1, li_2, li_3, li_4, li_5, li_6, li_7, li_8, li_9, li_10, li_11, li_12, li_13, li_14, li_15, li_16, li_20, li_24, li_28, li_31, li_35, li_38, li_40, li_41, li_45, li_48, li_60, li_62, li_63, li_97, li_100, li_104, li_105, li_120, li_124, li_127, li_180, li_239, li_240, li_255, li_256, li_300, li_400, li_960, li_1000000]
theorem m8_put {F : Nat} {σ τ : St} (h : RF F σ τ) : ∀ n p l (t : St) (D : Nat), p < F → p < n → l ≤ 6 → KE [12, 38] τ t → t.1 12 0 = nI D → D ≤ 2000 →
    ∃ t' D', gX8_put_ n t (nI p) (nI l) = some t' ∧ APd t t' D D' (br (decide (l ≤ (τ.1 15 p).toNatClampNeg)) (WT τ.1 p)) ∧ (D' = D ∨ D' ≤ 400 + 3 * (p + 1)) ∧ (400 < D → t' = t ∧ D' = D) := by
  have hF := h.le
  intro n
  induction n with
  | zero => intro p l t D _ hp; omega
  | succ n ih =>
    intro p l t D hp hn hl hK hD0 hD
    have unf : gX8_put_ (n + 1) t (nI p) (nI l) = bX8_put_ (gX8_put_ n) t (nI p) (nI l) := rfl
    rw [unf]
    obtain ⟨s, s5, e15, _, ag⟩ := h.st hp
    have wt := h.wt hp e15 s5
    have lenpos : 1 ≤ (WT τ.1 p).length := by
      rcases ag with ⟨rfl, k, hk, x1, _⟩ | ⟨rfl, _⟩ | ⟨rfl, a, ha, x1, _⟩ | ⟨s3, _, a, b, ha, hb, x1, x2⟩
      · rw [wt.1 rfl k hk x1]; exact Nat.le_refl 1
      · rw [wt.2.1 rfl]; exact Nat.le_refl 1
      · rw [wt.2.2.1 rfl a ha x1, List.length_cons]; omega
      · rw [wt.2.2.2 s3 a b ha hb x1 x2, List.length_append, List.length_cons]; omega
    by_cases h400 : 400 < D
    · refine ⟨t, D, ?_, ⟨KE.rf, hD0, fun hl => by omega, fun _ => h400⟩, Or.inl rfl, fun _ => ⟨rfl, rfl⟩⟩
      simp (implicitDefEqProofs := false) (disch := omega) only [bX8_put_, hD0, ↓bnd_e, ↓ob_s, ob_s, su_1, su_2, sl_1, sl_2, ↓ck_n, ck_n, ck_Z0, ck_Z1, c_lt, c_le, c_eq, ng_1, m_ne, m_en, m_lt, m_le, m_gt, m_ge, n_add, n_mul, n_sub, n_sm, n_pm, n_0m, n_cl, Nat.reduceEqDiff, ↓reduceIte, nle_T, nle_F, nlt_T, nlt_F, neq_F, neq_T, if_true, if_false, true_and, and_true, Nat.mul_zero, Nat.zero_add, Nat.add_zero, Nat.reduceAdd, Nat.reduceMul, Nat.reduceSub, li_0, li_1, li_2, li_3, li_4, li_5, li_6, li_7, li_8, li_9, li_10, li_11, li_12, li_13, li_14, li_15, li_16, li_20, li_24, li_28, li_31, li_35, li_38, li_40, li_41, li_45, li_48, li_60, li_62, li_63, li_97, li_100, li_104, li_105, li_120, li_124, li_127, li_180, li_239, li_240, li_255, li_256, li_300, li_400, li_960, li_1000000]
    · have bop : ∃ t0 D0, bX8_put_ (gX8_put_ n) t (nI p) (nI l) = mX8_put__41 (gX8_put_ n) t0 (nI p) (nI s) (zB (decide (l ≤ s))) ∧ APd t t0 D D0 (if decide (l ≤ s) then [nI 40] else []) ∧ D0 ≤ D + 1 := by
        have k15 : t.1 15 p = nI s := by rw [hK 15 (by decide)]; exact e15
        by_cases hb : l ≤ s
        · obtain ⟨t0, e0, a0⟩ := m8_p1 hD0 (by omega) (nI 40)
          have hd : decide (l ≤ s) = true := decide_eq_true hb
          rw [hd]
          refine ⟨t0, D + 1, ?_, a0, by omega⟩
          rw [zB_1]
          simp (implicitDefEqProofs := false) (disch := omega) only [bX8_put_, mX8_put__28, hD0, k15, e0, ↓bnd_e, ↓ob_s, ob_s, su_1, su_2, sl_1, sl_2, ↓ck_n, ck_n, ck_Z0, ck_Z1, c_lt, c_le, c_eq, ng_1, m_ne, m_en, m_lt, m_le, m_gt, m_ge, n_add, n_mul, n_sub, n_sm, n_pm, n_0m, n_cl, Nat.reduceEqDiff, ↓reduceIte, nle_T, nle_F, nlt_T, nlt_F, neq_F, neq_T, if_true, if_false, true_and, and_true, Nat.mul_zero, Nat.zero_add, Nat.add_zero, Nat.reduceAdd, Nat.reduceMul, Nat.reduceSub, li_0, li_1, li_2, li_3, li_4, li_5, li_6, li_7, li_8, li_9, li_10, li_11, li_12, li_13, li_14, li_15, li_16, li_20, li_24, li_28, li_31, li_35, li_38, li_40, li_41, li_45, li_48, li_60, li_62, li_63, li_97, li_100, li_104, li_105, li_120, li_124, li_127, li_180, li_239, li_240, li_255, li_256, li_300, li_400, li_960, li_1000000]
        · have hd : decide (l ≤ s) = false := decide_eq_false hb
          rw [hd]
          refine ⟨t, D, ?_, APd.rf hD0, by omega⟩
          rw [zB_0]
          simp (implicitDefEqProofs := false) (disch := omega) only [bX8_put_, mX8_put__28, hD0, k15, ↓bnd_e, ↓ob_s, ob_s, su_1, su_2, sl_1, sl_2, ↓ck_n, ck_n, ck_Z0, ck_Z1, c_lt, c_le, c_eq, ng_1, m_ne, m_en, m_lt, m_le, m_gt, m_ge, n_add, n_mul, n_sub, n_sm, n_pm, n_0m, n_cl, Nat.reduceEqDiff, ↓reduceIte, nle_T, nle_F, nlt_T, nlt_F, neq_F, neq_T, if_true, if_false, true_and, and_true, Nat.mul_zero, Nat.zero_add, Nat.add_zero, Nat.reduceAdd, Nat.reduceMul, Nat.reduceSub, li_0, li_1, li_2, li_3, li_4, li_5, li_6, li_7, li_8, li_9, li_10, li_11, li_12, li_13, li_14, li_15, li_16, li_20, li_24, li_28, li_31, li_35, li_38, li_40, li_41, li_45, li_48, li_60, li_62, li_63, li_97, li_100, li_104, li_105, li_120, li_124, li_127, li_180, li_239, li_240, li_255, li_256, li_300, li_400, li_960, li_1000000]
      obtain ⟨t0, D0, e0, a0, d0⟩ := bop
      have K0 : KE [12, 38] τ t0 := hK.tr a0.1
      have k16 : t0.1 16 = τ.1 16 := K0 16 (by decide)
      have body : ∃ t1 D1, (∀ v, mX8_put__41 (gX8_put_ n) t0 (nI p) (nI s) v = mX8_put__169 (gX8_put_ n) t1 v) ∧ APd t0 t1 D0 D1 (WT τ.1 p) ∧ D1 ≤ 400 + 3 * p + 2 := by
        rcases ag with ⟨rfl, k, hk, x1, _⟩ | ⟨rfl, _⟩ | ⟨rfl, a, ha, x1, _⟩ | ⟨s3, _, a, b, ha, hb, x1, x2⟩
        · obtain ⟨t1, e1, a1⟩ := m8_p1 a0.2.1 (by omega) (nI (97 + k))
          rw [wt.1 rfl k hk x1]
          refine ⟨t1, D0 + 1, fun v => ?_, a1, by omega⟩
          simp (implicitDefEqProofs := false) (disch := omega) only [mX8_put__41, k16, x1, e1, ↓bnd_e, ↓ob_s, ob_s, su_1, su_2, sl_1, sl_2, ↓ck_n, ck_n, ck_Z0, ck_Z1, c_lt, c_le, c_eq, ng_1, m_ne, m_en, m_lt, m_le, m_gt, m_ge, n_add, n_mul, n_sub, n_sm, n_pm, n_0m, n_cl, Nat.reduceEqDiff, ↓reduceIte, nle_T, nle_F, nlt_T, nlt_F, neq_F, neq_T, if_true, if_false, true_and, and_true, Nat.mul_zero, Nat.zero_add, Nat.add_zero, Nat.reduceAdd, Nat.reduceMul, Nat.reduceSub, li_0, li_1, li_2, li_3, li_4, li_5, li_6, li_7, li_8, li_9, li_10, li_11, li_12, li_13, li_14, li_15, li_16, li_20, li_24, li_28, li_31, li_35, li_38, li_40, li_41, li_45, li_48, li_60, li_62, li_63, li_97, li_100, li_104, li_105, li_120, li_124, li_127, li_180, li_239, li_240, li_255, li_256, li_300, li_400, li_960, li_1000000]
        · obtain ⟨t1, e1, a1⟩ := m8_p1 a0.2.1 (by omega) (nI 35)
          rw [wt.2.1 rfl]
          refine ⟨t1, D0 + 1, fun v => ?_, a1, by omega⟩
          simp (implicitDefEqProofs := false) (disch := omega) only [mX8_put__41, e1, ↓bnd_e, ↓ob_s, ob_s, su_1, su_2, sl_1, sl_2, ↓ck_n, ck_n, ck_Z0, ck_Z1, c_lt, c_le, c_eq, ng_1, m_ne, m_en, m_lt, m_le, m_gt, m_ge, n_add, n_mul, n_sub, n_sm, n_pm, n_0m, n_cl, Nat.reduceEqDiff, ↓reduceIte, nle_T, nle_F, nlt_T, nlt_F, neq_F, neq_T, if_true, if_false, true_and, and_true, Nat.mul_zero, Nat.zero_add, Nat.add_zero, Nat.reduceAdd, Nat.reduceMul, Nat.reduceSub, li_0, li_1, li_2, li_3, li_4, li_5, li_6, li_7, li_8, li_9, li_10, li_11, li_12, li_13, li_14, li_15, li_16, li_20, li_24, li_28, li_31, li_35, li_38, li_40, li_41, li_45, li_48, li_60, li_62, li_63, li_97, li_100, li_104, li_105, li_120, li_124, li_127, li_180, li_239, li_240, li_255, li_256, li_300, li_400, li_960, li_1000000]
        · obtain ⟨t1, e1, a1⟩ := m8_p1 a0.2.1 (by omega) (nI 45)
          have K1 : KE [12, 38] τ t1 := K0.tr a1.1
          obtain ⟨t2, D2, e2, a2, b2, c2⟩ := ih a 3 t1 (D0 + 1) (by omega) (by omega) (by omega) K1 a1.2.1 (by omega)
          rw [wt.2.2.1 rfl a ha x1]
          refine ⟨t2, D2, fun v => ?_, a1.tr a2, by omega⟩
          have q16 : t1.1 16 p = nI a := by rw [K1 16 (by decide)]; exact x1
          simp (implicitDefEqProofs := false) (disch := omega) only [mX8_put__41, e1, q16, e2, ↓bnd_e, ↓ob_s, ob_s, su_1, su_2, sl_1, sl_2, ↓ck_n, ck_n, ck_Z0, ck_Z1, c_lt, c_le, c_eq, ng_1, m_ne, m_en, m_lt, m_le, m_gt, m_ge, n_add, n_mul, n_sub, n_sm, n_pm, n_0m, n_cl, Nat.reduceEqDiff, ↓reduceIte, nle_T, nle_F, nlt_T, nlt_F, neq_F, neq_T, if_true, if_false, true_and, and_true, Nat.mul_zero, Nat.zero_add, Nat.add_zero, Nat.reduceAdd, Nat.reduceMul, Nat.reduceSub, li_0, li_1, li_2, li_3, li_4, li_5, li_6, li_7, li_8, li_9, li_10, li_11, li_12, li_13, li_14, li_15, li_16, li_20, li_24, li_28, li_31, li_35, li_38, li_40, li_41, li_45, li_48, li_60, li_62, li_63, li_97, li_100, li_104, li_105, li_120, li_124, li_127, li_180, li_239, li_240, li_255, li_256, li_300, li_400, li_960, li_1000000]
        · have l1 : (if s = 5 then 5 else s + 1) ≤ 6 := by split <;> omega
          have l2 : (if s = 5 then 6 else s) ≤ 6 := by split <;> omega
          obtain ⟨t1, D1, e1, a1, b1, c1⟩ := ih a (if s = 5 then 5 else s + 1) t0 D0 (by omega) (by omega) l1 K0 a0.2.1 (by omega)
          have K1 : KE [12, 38] τ t1 := K0.tr a1.1
          obtain ⟨t2, e2, a2⟩ := m8_p1 a1.2.1 (by omega) (opb s)
          have K2 : KE [12, 38] τ t2 := K1.tr a2.1
          obtain ⟨t3, D3, e3, a3, b3, c3⟩ := ih b (if s = 5 then 6 else s) t2 (D1 + 1) (by omega) (by omega) l2 K2 a2.2.1 (by omega)
          rw [wt.2.2.2 s3 a b ha hb x1 x2]
          refine ⟨t3, D3, fun v => ?_, a1.tr (a2.tr a3), by omega⟩
          have q16 : t0.1 16 p = nI a := by rw [K0 16 (by decide)]; exact x1
          have q17 : t2.1 17 p = nI b := by rw [K2 17 (by decide)]; exact x2
          have hs : s = 3 ∨ s = 4 ∨ s = 5 := by omega
          rcases hs with rfl | rfl | rfl
          · have e1' : gX8_put_ n t0 (nI a) (nI 4) = some t1 := e1
            have e2' : mX8_put t1 (nI 38) = some t2 := e2
            have e3' : gX8_put_ n t2 (nI b) (nI 3) = some t3 := e3
            simp (implicitDefEqProofs := false) (disch := omega) only [mX8_put__41, mX8_put__119, mX8_put__145, mX8_put__166, q16, q17, e1', e2', e3', ↓bnd_e, ↓ob_s, ob_s, su_1, su_2, sl_1, sl_2, ↓ck_n, ck_n, ck_Z0, ck_Z1, c_lt, c_le, c_eq, ng_1, m_ne, m_en, m_lt, m_le, m_gt, m_ge, n_add, n_mul, n_sub, n_sm, n_pm, n_0m, n_cl, Nat.reduceEqDiff, ↓reduceIte, nle_T, nle_F, nlt_T, nlt_F, neq_F, neq_T, if_true, if_false, true_and, and_true, Nat.mul_zero, Nat.zero_add, Nat.add_zero, Nat.reduceAdd, Nat.reduceMul, Nat.reduceSub, li_0, li_1, li_2, li_3, li_4, li_5, li_6, li_7, li_8, li_9, li_10, li_11, li_12, li_13, li_14, li_15, li_16, li_20, li_24, li_28, li_31, li_35, li_38, li_40, li_41, li_45, li_48, li_60, li_62, li_63, li_97, li_100, li_104, li_105, li_120, li_124, li_127, li_180, li_239, li_240, li_255, li_256, li_300, li_400, li_960, li_1000000]
          · have e1' : gX8_put_ n t0 (nI a) (nI 5) = some t1 := e1
            have e2' : mX8_put t1 (nI 124) = some t2 := e2
            have e3' : gX8_put_ n t2 (nI b) (nI 4) = some t3 := e3
            simp (implicitDefEqProofs := false) (disch := omega) only [mX8_put__41, mX8_put__119, mX8_put__145, mX8_put__166, q16, q17, e1', e2', e3', ↓bnd_e, ↓ob_s, ob_s, su_1, su_2, sl_1, sl_2, ↓ck_n, ck_n, ck_Z0, ck_Z1, c_lt, c_le, c_eq, ng_1, m_ne, m_en, m_lt, m_le, m_gt, m_ge, n_add, n_mul, n_sub, n_sm, n_pm, n_0m, n_cl, Nat.reduceEqDiff, ↓reduceIte, nle_T, nle_F, nlt_T, nlt_F, neq_F, neq_T, if_true, if_false, true_and, and_true, Nat.mul_zero, Nat.zero_add, Nat.add_zero, Nat.reduceAdd, Nat.reduceMul, Nat.reduceSub, li_0, li_1, li_2, li_3, li_4, li_5, li_6, li_7, li_8, li_9, li_10, li_11, li_12, li_13, li_14, li_15, li_16, li_20, li_24, li_28, li_31, li_35, li_38, li_40, li_41, li_45, li_48, li_60, li_62, li_63, li_97, li_100, li_104, li_105, li_120, li_124, li_127, li_180, li_239, li_240, li_255, li_256, li_300, li_400, li_960, li_1000000]
          · have e1' : gX8_put_ n t0 (nI a) (nI 5) = some t1 := e1
            have e2' : mX8_put t1 (nI 62) = some t2 := e2
            have e3' : gX8_put_ n t2 (nI b) (nI 6) = some t3 := e3
            simp (implicitDefEqProofs := false) (disch := omega) only [mX8_put__41, mX8_put__119, mX8_put__145, mX8_put__166, q16, q17, e1', e2', e3', ↓bnd_e, ↓ob_s, ob_s, su_1, su_2, sl_1, sl_2, ↓ck_n, ck_n, ck_Z0, ck_Z1, c_lt, c_le, c_eq, ng_1, m_ne, m_en, m_lt, m_le, m_gt, m_ge, n_add, n_mul, n_sub, n_sm, n_pm, n_0m, n_cl, Nat.reduceEqDiff, ↓reduceIte, nle_T, nle_F, nlt_T, nlt_F, neq_F, neq_T, if_true, if_false, true_and, and_true, Nat.mul_zero, Nat.zero_add, Nat.add_zero, Nat.reduceAdd, Nat.reduceMul, Nat.reduceSub, li_0, li_1, li_2, li_3, li_4, li_5, li_6, li_7, li_8, li_9, li_10, li_11, li_12, li_13, li_14, li_15, li_16, li_20, li_24, li_28, li_31, li_35, li_38, li_40, li_41, li_45, li_48, li_60, li_62, li_63, li_97, li_100, li_104, li_105, li_120, li_124, li_127, li_180, li_239, li_240, li_255, li_256, li_300, li_400, li_960, li_1000000]
      obtain ⟨t1, D1, e1, a1, b1⟩ := body
      obtain ⟨t2, D2, e2, a2, b2⟩ := m8_169 (F := gX8_put_ n) a1.2.1 (by omega) (decide (l ≤ s))
      refine ⟨t2, D2, ?_, ?_, Or.inr (by omega), fun h => absurd h h400⟩
      · rw [e0, e1 (zB (decide (l ≤ s))), e2]
      · rw [e15, n_cl (by omega), br_app]
        exact (a0.tr a1).tr a2
