theorem lcmp_same {x : Int64} : lg_cmp x x = 0 := by simp [lg_cmp]
/-- what the main part of the law never changes -/
def kQ : List Nat := [0, 1, 5, 12, 13, 14, 15, 19]
def BK (σs σ : St) : Prop := SA kQ σs σ ∧ σ.2 = σs.2
theorem BK.k {σs σ σ' : St} {l : List Nat} (h : BK σs σ) (k : KE l σ σ') (k2 : σ'.2 = σ.2) (hd : ∀ c, c ∈ kQ → c ∉ l) : BK σs σ' := ⟨fun c hc => (k c (hd c hc)).trans (h.1 c hc), k2.trans h.2⟩
def JX (F T L B n O m t : Nat) (σs σ : St) : Prop := GI F T L B n O m σ ∧ sr (σ.1 25) 0 T + L ≤ t ∧ (∀ i, i < T → ∃ b, 1 ≤ b ∧ b < 61 ∧ σ.1 26 i = nI b) ∧ BK σs σ
def JJ (F T t : Nat) (σs σ : St) : Prop := ∃ L B n O m, JX F T L B n O m t σs σ
def HK (F t : Nat) (σs : St) (ds : Int64) (kh : St → Int32 → Int64 → Int32 → Int32 → Option Unit) : Prop := ∀ T σ, JJ F T (t + 1) σs σ → kh σ (nI F) ds (nI T) (nI (t + 1)) = some ()
/-- the checksum of a state -/
def DG (d : Int64) (σ : St) : Prop := ∃ σ', mX7_digest σ = some (d, σ')
theorem JX.sc {F T L B n O m t : Nat} {σs σ σ' : St} (h : JX F T L B n O m t σs σ) (k : SC σ σ') : JX F T L B n O m t σs σ' := by
  obtain ⟨a, b, c, d⟩ := h
  refine ⟨a.sc k, by rw [k.1 25 (by decide)]; exact b, by rw [k.1 26 (by decide)]; exact c, d.k k.1 k.2 (by decide)⟩
theorem JX.up {F T L B n O m t L' B' n' O' m' : Nat} {σs σ σ' : St} (h : JX F T L B n O m t σs σ) (g : GI F T L' B' n' O' m' σ') (k : KE kP σ σ') (k2 : σ'.2 = σ.2) (hL : L' ≤ L + 1) : JX F T L' B' n' O' m' (t + 1) σs σ' := by
  obtain ⟨a, b, c, d⟩ := h
  exact ⟨g, by rw [k 25 (by decide)]; omega, by rw [k 26 (by decide)]; exact c, d.k k k2 (by decide)⟩
theorem JX.t {F T L B n O m t : Nat} {σs σ : St} (h : JX F T L B n O m t σs σ) : JX F T L B n O m (t + 1) σs σ := ⟨h.1, by have := h.2.1; omega, h.2.2⟩
theorem DG.sc {F T L B n O m : Nat} {σ s : St} {d : Int64} (h : DG d σ) (g : GI F T L B n O m σ) (k : SC σ s) : DG d s := by
  obtain ⟨σ', e⟩ := h
  obtain ⟨M, m1, m2⟩ := g.pp
  obtain ⟨s', e', _⟩ := q_dig2 ((g.lv m1 m2).k KE.rf k.1) e
  exact ⟨s', e'⟩
theorem DG.lv {F T L B M : Nat} {σ s : St} {d : Int64} (h : DG d σ) (l : LV F T L B M σ s) : DG d s := by
  obtain ⟨σ', e⟩ := h
  obtain ⟨s', e', _⟩ := q_dig2 l e
  exact ⟨s', e'⟩
/-- the checksum, asked for: it is as it was, and nothing but marks changes -/
theorem DG.ask {F T L B n O m : Nat} {σ : St} {d : Int64} (h : DG d σ) (g : GI F T L B n O m σ) : ∃ σ', mX7_digest σ = some (d, σ') ∧ SC σ σ' := by
  obtain ⟨σ', e⟩ := h
  obtain ⟨d', s1, e1, e2⟩ := q_dig g
  rw [e] at e1
  have : σ' = s1 := congrArg Prod.snd (Option.some.inj e1)
  subst this
  exact ⟨σ', e, e2⟩
theorem lv_00 {F n O m n' m' M : Nat} {σs u : St} (h : GI F 0 0 0 n O m σs) (h' : GI F 0 0 0 n' O m' u) (b : BK σs u) (hM : M ≤ 400) (h5 : σs.1 5 0 = nI M) : LV F 0 0 0 M σs u := by
  obtain ⟨τ, q, _⟩ := h
  obtain ⟨t, q', _⟩ := h'
  refine ⟨⟨q.1.le, by omega, by omega, by omega, hM⟩, ⟨⟨q.1.1.2.1, q'.1.1.2.1⟩, ⟨h5, by rw [b.1 5 (by decide)]; exact h5⟩, ⟨q.2.2.2.1.1.2.1, q'.2.2.2.1.1.2.1⟩, ⟨q.vv.1.1, q'.vv.1.1⟩, ⟨q.vv.1.2.2.1, q'.vv.1.2.2.1⟩, by rw [b.1 1 (by decide)], by rw [q.vv.1.2.2.2.2.1, q'.vv.1.2.2.2.2.1]⟩, fun j _ => ⟨by rw [b.1 12 (by decide)], by rw [b.1 13 (by decide)], by rw [b.1 14 (by decide)]⟩, fun k hk => absurd hk (by omega), fun p hp => absurd hp (by omega), fun b hb => absurd hb (by omega), fun t ht => absurd ht (by omega), fun k _ => by rw [b.1 19 (by decide)]⟩
section
variable {F T L B n O m t : Nat} {σs σ : St} {ds : Int64} (xs : Nat → Int32) (L0 : Nat)
theorem qt_0 (h : GI F T L B n O m σ) {i : Nat} (hi : i < T) : mX7_theorem σ (nI i) 0 = some (σ.1 22 i) := by
  obtain ⟨τ, q, _⟩ := h
  have hT := q.2.2.2.1.1.1
  have a6 := q.2.2.2.1.1.2.1
  have i1 : mX6_isKnown σ (nI i) = some (nI 1) := by simp (implicitDefEqProofs := false) (disch := omega) only [mX6_isKnown, a6, ↓bnd_e, ↓ob_s, ob_s, su_1, su_2, sl_1, sl_2, ↓ck_n, ck_n, ck_Z0, ck_Z1, c_lt, c_le, c_eq, ng_1, m_ne, m_en, m_lt, m_le, m_gt, m_ge, n_add, n_mul, n_sub, n_sm, n_pm, n_0m, n_cl, Nat.reduceEqDiff, ↓reduceIte, nle_T, nle_F, nlt_T, nlt_F, neq_F, neq_T, if_true, if_false, true_and, and_true, Nat.mul_zero, Nat.zero_add, Nat.add_zero, Nat.reduceAdd, Nat.reduceMul, Nat.reduceSub, li_0, li_1, li_2, li_3, li_4, li_5, li_6, li_7, li_8, li_9, li_10, li_11, li_12, li_13, li_14, li_15, li_16, li_20, li_24, li_28, li_31, li_35, li_38, li_40, li_41, li_45, li_48, li_60, li_62, li_63, li_97, li_100, li_104, li_105, li_120, li_124, li_127, li_180, li_239, li_240, li_255, li_256, li_300, li_400, li_960, li_1000000]
  simp (implicitDefEqProofs := false) (disch := omega) only [mX7_theorem, i1, mX6_conclusion, a6, ↓bnd_e, ↓ob_s, ob_s, su_1, su_2, sl_1, sl_2, ↓ck_n, ck_n, ck_Z0, ck_Z1, c_lt, c_le, c_eq, ng_1, m_ne, m_en, m_lt, m_le, m_gt, m_ge, n_add, n_mul, n_sub, n_sm, n_pm, n_0m, n_cl, Nat.reduceEqDiff, ↓reduceIte, nle_T, nle_F, nlt_T, nlt_F, neq_F, neq_T, if_true, if_false, true_and, and_true, Nat.mul_zero, Nat.zero_add, Nat.add_zero, Nat.reduceAdd, Nat.reduceMul, Nat.reduceSub, li_0, li_1, li_2, li_3, li_4, li_5, li_6, li_7, li_8, li_9, li_10, li_11, li_12, li_13, li_14, li_15, li_16, li_20, li_24, li_28, li_31, li_35, li_38, li_40, li_41, li_45, li_48, li_60, li_62, li_63, li_97, li_100, li_104, li_105, li_120, li_124, li_127, li_180, li_239, li_240, li_255, li_256, li_300, li_400, li_960, li_1000000]
theorem qt_1 (h : GI F T L B n O m σ) {i : Nat} (hi : i < T) {v : Int32} (e : mX6_premises σ (nI i) = some v) : mX7_theorem σ (nI i) 1 = some v := by
  obtain ⟨τ, q, _⟩ := h
  have hT := q.2.2.2.1.1.1
  have a6 := q.2.2.2.1.1.2.1
  have i1 : mX6_isKnown σ (nI i) = some (nI 1) := by simp (implicitDefEqProofs := false) (disch := omega) only [mX6_isKnown, a6, ↓bnd_e, ↓ob_s, ob_s, su_1, su_2, sl_1, sl_2, ↓ck_n, ck_n, ck_Z0, ck_Z1, c_lt, c_le, c_eq, ng_1, m_ne, m_en, m_lt, m_le, m_gt, m_ge, n_add, n_mul, n_sub, n_sm, n_pm, n_0m, n_cl, Nat.reduceEqDiff, ↓reduceIte, nle_T, nle_F, nlt_T, nlt_F, neq_F, neq_T, if_true, if_false, true_and, and_true, Nat.mul_zero, Nat.zero_add, Nat.add_zero, Nat.reduceAdd, Nat.reduceMul, Nat.reduceSub, li_0, li_1, li_2, li_3, li_4, li_5, li_6, li_7, li_8, li_9, li_10, li_11, li_12, li_13, li_14, li_15, li_16, li_20, li_24, li_28, li_31, li_35, li_38, li_40, li_41, li_45, li_48, li_60, li_62, li_63, li_97, li_100, li_104, li_105, li_120, li_124, li_127, li_180, li_239, li_240, li_255, li_256, li_300, li_400, li_960, li_1000000]
  simp (implicitDefEqProofs := false) (disch := omega) only [mX7_theorem, i1, e, ↓bnd_e, ↓ob_s, ob_s, su_1, su_2, sl_1, sl_2, ↓ck_n, ck_n, ck_Z0, ck_Z1, c_lt, c_le, c_eq, ng_1, m_ne, m_en, m_lt, m_le, m_gt, m_ge, n_add, n_mul, n_sub, n_sm, n_pm, n_0m, n_cl, Nat.reduceEqDiff, ↓reduceIte, nle_T, nle_F, nlt_T, nlt_F, neq_F, neq_T, if_true, if_false, true_and, and_true, Nat.mul_zero, Nat.zero_add, Nat.add_zero, Nat.reduceAdd, Nat.reduceMul, Nat.reduceSub, li_0, li_1, li_2, li_3, li_4, li_5, li_6, li_7, li_8, li_9, li_10, li_11, li_12, li_13, li_14, li_15, li_16, li_20, li_24, li_28, li_31, li_35, li_38, li_40, li_41, li_45, li_48, li_60, li_62, li_63, li_97, li_100, li_104, li_105, li_120, li_124, li_127, li_180, li_239, li_240, li_255, li_256, li_300, li_400, li_960, li_1000000]
theorem qt_4 (h : GI F T L B n O m σ) {i : Nat} (hi : i < T) : mX7_theorem σ (nI i) 4 = some (σ.1 25 i) := by
  obtain ⟨τ, q, _⟩ := h
  have hT := q.2.2.2.1.1.1
  have a6 := q.2.2.2.1.1.2.1
  have i1 : mX6_isKnown σ (nI i) = some (nI 1) := by simp (implicitDefEqProofs := false) (disch := omega) only [mX6_isKnown, a6, ↓bnd_e, ↓ob_s, ob_s, su_1, su_2, sl_1, sl_2, ↓ck_n, ck_n, ck_Z0, ck_Z1, c_lt, c_le, c_eq, ng_1, m_ne, m_en, m_lt, m_le, m_gt, m_ge, n_add, n_mul, n_sub, n_sm, n_pm, n_0m, n_cl, Nat.reduceEqDiff, ↓reduceIte, nle_T, nle_F, nlt_T, nlt_F, neq_F, neq_T, if_true, if_false, true_and, and_true, Nat.mul_zero, Nat.zero_add, Nat.add_zero, Nat.reduceAdd, Nat.reduceMul, Nat.reduceSub, li_0, li_1, li_2, li_3, li_4, li_5, li_6, li_7, li_8, li_9, li_10, li_11, li_12, li_13, li_14, li_15, li_16, li_20, li_24, li_28, li_31, li_35, li_38, li_40, li_41, li_45, li_48, li_60, li_62, li_63, li_97, li_100, li_104, li_105, li_120, li_124, li_127, li_180, li_239, li_240, li_255, li_256, li_300, li_400, li_960, li_1000000]
  simp (implicitDefEqProofs := false) (disch := omega) only [mX7_theorem, i1, mX6_lines, a6, ↓bnd_e, ↓ob_s, ob_s, su_1, su_2, sl_1, sl_2, ↓ck_n, ck_n, ck_Z0, ck_Z1, c_lt, c_le, c_eq, ng_1, m_ne, m_en, m_lt, m_le, m_gt, m_ge, n_add, n_mul, n_sub, n_sm, n_pm, n_0m, n_cl, Nat.reduceEqDiff, ↓reduceIte, nle_T, nle_F, nlt_T, nlt_F, neq_F, neq_T, if_true, if_false, true_and, and_true, Nat.mul_zero, Nat.zero_add, Nat.add_zero, Nat.reduceAdd, Nat.reduceMul, Nat.reduceSub, li_0, li_1, li_2, li_3, li_4, li_5, li_6, li_7, li_8, li_9, li_10, li_11, li_12, li_13, li_14, li_15, li_16, li_20, li_24, li_28, li_31, li_35, li_38, li_40, li_41, li_45, li_48, li_60, li_62, li_63, li_97, li_100, li_104, li_105, li_120, li_124, li_127, li_180, li_239, li_240, li_255, li_256, li_300, li_400, li_960, li_1000000]
theorem qt_5 (h : GI F T L B n O m σ) {i : Nat} (hi : i < T) : mX7_theorem σ (nI i) 5 = some (σ.1 26 i) := by
  obtain ⟨τ, q, _⟩ := h
  have hT := q.2.2.2.1.1.1
  have a6 := q.2.2.2.1.1.2.1
  have i1 : mX6_isKnown σ (nI i) = some (nI 1) := by simp (implicitDefEqProofs := false) (disch := omega) only [mX6_isKnown, a6, ↓bnd_e, ↓ob_s, ob_s, su_1, su_2, sl_1, sl_2, ↓ck_n, ck_n, ck_Z0, ck_Z1, c_lt, c_le, c_eq, ng_1, m_ne, m_en, m_lt, m_le, m_gt, m_ge, n_add, n_mul, n_sub, n_sm, n_pm, n_0m, n_cl, Nat.reduceEqDiff, ↓reduceIte, nle_T, nle_F, nlt_T, nlt_F, neq_F, neq_T, if_true, if_false, true_and, and_true, Nat.mul_zero, Nat.zero_add, Nat.add_zero, Nat.reduceAdd, Nat.reduceMul, Nat.reduceSub, li_0, li_1, li_2, li_3, li_4, li_5, li_6, li_7, li_8, li_9, li_10, li_11, li_12, li_13, li_14, li_15, li_16, li_20, li_24, li_28, li_31, li_35, li_38, li_40, li_41, li_45, li_48, li_60, li_62, li_63, li_97, li_100, li_104, li_105, li_120, li_124, li_127, li_180, li_239, li_240, li_255, li_256, li_300, li_400, li_960, li_1000000]
  simp (implicitDefEqProofs := false) (disch := omega) only [mX7_theorem, i1, mX6_needed, a6, ↓bnd_e, ↓ob_s, ob_s, su_1, su_2, sl_1, sl_2, ↓ck_n, ck_n, ck_Z0, ck_Z1, c_lt, c_le, c_eq, ng_1, m_ne, m_en, m_lt, m_le, m_gt, m_ge, n_add, n_mul, n_sub, n_sm, n_pm, n_0m, n_cl, Nat.reduceEqDiff, ↓reduceIte, nle_T, nle_F, nlt_T, nlt_F, neq_F, neq_T, if_true, if_false, true_and, and_true, Nat.mul_zero, Nat.zero_add, Nat.add_zero, Nat.reduceAdd, Nat.reduceMul, Nat.reduceSub, li_0, li_1, li_2, li_3, li_4, li_5, li_6, li_7, li_8, li_9, li_10, li_11, li_12, li_13, li_14, li_15, li_16, li_20, li_24, li_28, li_31, li_35, li_38, li_40, li_41, li_45, li_48, li_60, li_62, li_63, li_97, li_100, li_104, li_105, li_120, li_124, li_127, li_180, li_239, li_240, li_255, li_256, li_300, li_400, li_960, li_1000000]
/-- THE LAW'S END -/
theorem l890 (j : JX F T L B n O m 30 σs σ) (hg : GI F 0 0 0 0 0 0 σs) (hd : DG ds σs) : mL_law_890 xs L0 σ ds (nI T) = some () := by
  obtain ⟨g, j1, j2, j3⟩ := j
  have gl := g.le
  obtain ⟨r, r1, r2, r3⟩ := op_thrift g (by omega) j2
  unfold mL_law_890
  rw [qc_7 g, ob_s]
  dsimp only
  rw [if_pos rfl, r1, ob_s, if_neg r2, ob_s, if_neg r3]
  by_cases h0 : T = 0
  · subst h0
    rw [if_neg (show ¬ (0 : Int32) < nI 0 by decide)]
    obtain ⟨u, b1, b2, b3, b4⟩ := op_begin g
    rw [b1, ob_s]
    dsimp only
    rw [if_neg (show ¬ nI L < 0 from nI_pos (by omega))]
    obtain ⟨M, m1, m2⟩ := hg.pp
    obtain ⟨u', e⟩ := hd.lv (lv_00 hg b2 (j3.k b3 b4 (by decide)) m1 m2)
    rw [e, ob_s]
    dsimp only
    rw [if_pos lcmp_same]
  · rw [if_pos (show (0 : Int32) < nI T from nI_lt (a := 0) (by omega) (by omega))]
theorem l884 {kh : St → Int32 → Int64 → Int32 → Int32 → Option Unit} (hk : HK F t σs ds kh) (j : JJ F T (t + 1) σs σ) : mL_law_884 xs L0 kh σ (nI F) ds (nI T) (nI t) = some () := by
  unfold mL_law_884
  rw [bnd_e, nI_1]
  exact hk T σ j
theorem l881 {kh : St → Int32 → Int64 → Int32 → Int32 → Option Unit} (hk : HK F t σs ds kh) (j : JJ F (T + 1) (t + 1) σs σ) : mL_law_881 xs L0 kh σ (nI F) ds (nI T) (nI t) = some () := by
  unfold mL_law_881
  rw [bnd_e, nI_1]
  exact l884 xs L0 hk j
end
