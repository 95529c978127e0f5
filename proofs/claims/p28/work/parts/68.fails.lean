/-- whether the formula of a line is true for a set -/
def tlB (σ τ : St) (k q : Nat) : Bool := btL (σ.2 (4 * (τ.1 21 k).toNatClampNeg + q / 64)) (q % 64)
def pbr (f : Nat → Bool) : Nat → Nat → Bool
  | _, 0 => true
  | k, d + 1 => f k && pbr f (k + 1) d
def bxc (g : Nat → Nat → Int32) (t : Nat → Bool) : Nat → Int32 → Bool
  | 0, _ => true
  | n + 1, x => t (g 25 x.toNatClampNeg).toNatClampNeg && bxc g t n (g 27 x.toNatClampNeg)
/-- how deep a box is -/
def DX (B : Nat) (d : Nat → Nat) (x : Int32) (i : Nat) : Prop := (x = mI ∧ i = 0) ∨ ∃ b, b < B ∧ x = nI b ∧ d b = i
theorem truth_line {F T L B O : Nat} {σ τ : St} (h : VV F T L B O σ τ) (hf : RF F σ τ) {k w : Nat} (hk : k < L) (hw : w < 4) :
    ∃ f, f < F ∧ τ.1 21 k = nI f ∧ mX3_formulaOf σ (nI k) = some (nI f) ∧ mX1_truth σ (nI f) (nI w) = some (σ.2 (4 * f + w)) ∧ ∀ b, b < 64 → btL (σ.2 (4 * f + w)) b = tlB σ τ k (64 * w + b) := by
  have hF := hf.le
  have hL : L ≤ 60 := h.2.2.2.1.1
  have a8 := h.1.1
  obtain ⟨⟨f, f1, f2⟩, _⟩ := h.2.2.2.2.1 k hk
  have e29 : σ.1 29 k = nI f := by rw [h.2.1.1]; exact f2
  refine ⟨f, f1, f2, by simp (implicitDefEqProofs := false) (disch := omega) only [mX3_formulaOf, a8, e29, ↓bnd_e, ↓ob_s, ob_s, su_1, su_2, sl_1, sl_2, ↓ck_n, ck_n, ck_Z0, ck_Z1, c_lt, c_le, c_eq, ng_1, m_ne, m_en, m_lt, m_le, m_gt, m_ge, n_add, n_mul, n_sub, n_sm, n_pm, n_0m, n_cl, Nat.reduceEqDiff, ↓reduceIte, nle_T, nle_F, nlt_T, nlt_F, neq_F, neq_T, if_true, if_false, true_and, and_true, Nat.mul_zero, Nat.zero_add, Nat.add_zero, Nat.reduceAdd, Nat.reduceMul, Nat.reduceSub, li_0, li_1, li_2, li_3, li_4, li_5, li_6, li_7, li_8, li_9, li_10, li_11, li_12, li_13, li_14, li_15, li_16, li_20, li_24, li_28, li_31, li_35, li_38, li_40, li_41, li_45, li_48, li_60, li_62, li_63, li_97, li_100, li_104, li_105, li_120, li_124, li_127, li_180, li_239, li_240, li_255, li_256, li_300, li_400, li_960, li_1000000], gn_truth hf.1.2.1 hF f1 hw, fun b hb => ?_⟩
  unfold tlB
  rw [f2, n_cl (by omega)]
  have x : (64 * w + b) / 64 = w := by omega
  have y : (64 * w + b) % 64 = b := by omega
  rw [x, y]
theorem fails_67 {F T L B O : Nat} {σ τ : St} (h : VV F T L B O σ τ) (hf : RF F σ τ) {d : Nat → Nat} (hd : DP B τ.1 d) {w : Nat} (hw : w < 4) : ∀ i n c x acc, DX B d x i → c + i ≤ 6 → i < n →
    ∃ r, mX3_failuresIn_67 n σ (nI w) acc x (nI c) = some r ∧ ∀ b, b < 64 → btL r b = (btL acc b && bxc τ.1 (fun j => tlB σ τ j (64 * w + b)) i x) := by
  have hL : L ≤ 60 := h.2.2.2.1.1
  have hB : B ≤ 60 := by have := h.2.2.2.1.2.1; omega
  have a1 := h.1.2.2.1
  obtain ⟨e29, e30, e31, e33, e36, e37, e38⟩ := h.2.1
  intro i
  induction i with
  | zero =>
    intro n c x acc hx hc hn
    obtain ⟨n, rfl⟩ : ∃ m, n = m + 1 := ⟨n - 1, by omega⟩
    have hx' : x = mI := by
      rcases hx with ⟨e, _⟩ | ⟨b, hb, _, e⟩
      · exact e
      · have := (hd b hb).1; omega
    subst hx'
    refine ⟨acc, ?_, fun b hb => by simp [bxc]⟩
    by_cases hc6 : 6 ≤ c
    · simp (implicitDefEqProofs := false) (disch := omega) only [fx_s, bX3_failuresIn_67, ↓bnd_e, ↓ob_s, ob_s, su_1, su_2, sl_1, sl_2, ↓ck_n, ck_n, ck_Z0, ck_Z1, c_lt, c_le, c_eq, ng_1, m_ne, m_en, m_lt, m_le, m_gt, m_ge, n_add, n_mul, n_sub, n_sm, n_pm, n_0m, n_cl, Nat.reduceEqDiff, ↓reduceIte, nle_T, nle_F, nlt_T, nlt_F, neq_F, neq_T, if_true, if_false, true_and, and_true, Nat.mul_zero, Nat.zero_add, Nat.add_zero, Nat.reduceAdd, Nat.reduceMul, Nat.reduceSub, li_0, li_1, li_2, li_3, li_4, li_5, li_6, li_7, li_8, li_9, li_10, li_11, li_12, li_13, li_14, li_15, li_16, li_20, li_24, li_28, li_31, li_35, li_38, li_40, li_41, li_45, li_48, li_60, li_62, li_63, li_97, li_100, li_104, li_105, li_120, li_124, li_127, li_180, li_239, li_240, li_255, li_256, li_300, li_400, li_960, li_1000000]
    · simp (implicitDefEqProofs := false) (disch := omega) only [fx_s, bX3_failuresIn_67, ↓bnd_e, ↓ob_s, ob_s, su_1, su_2, sl_1, sl_2, ↓ck_n, ck_n, ck_Z0, ck_Z1, c_lt, c_le, c_eq, ng_1, m_ne, m_en, m_lt, m_le, m_gt, m_ge, n_add, n_mul, n_sub, n_sm, n_pm, n_0m, n_cl, Nat.reduceEqDiff, ↓reduceIte, nle_T, nle_F, nlt_T, nlt_F, neq_F, neq_T, if_true, if_false, true_and, and_true, Nat.mul_zero, Nat.zero_add, Nat.add_zero, Nat.reduceAdd, Nat.reduceMul, Nat.reduceSub, li_0, li_1, li_2, li_3, li_4, li_5, li_6, li_7, li_8, li_9, li_10, li_11, li_12, li_13, li_14, li_15, li_16, li_20, li_24, li_28, li_31, li_35, li_38, li_40, li_41, li_45, li_48, li_60, li_62, li_63, li_97, li_100, li_104, li_105, li_120, li_124, li_127, li_180, li_239, li_240, li_255, li_256, li_300, li_400, li_960, li_1000000]
  | succ i ih =>
    intro n c x acc hx hc hn
    obtain ⟨n, rfl⟩ : ∃ m, n = m + 1 := ⟨n - 1, by omega⟩
    rcases hx with ⟨_, e⟩ | ⟨b, hb, rfl, hdb⟩
    · omega
    · obtain ⟨_, j, j1, j2, j3⟩ := h.2.2.2.2.2.2.2.1 b hb
      obtain ⟨f, f1, f2, f3, f4, f5⟩ := truth_line h hf j1 hw
      have hx' : DX B d (τ.1 27 b) i := by
        obtain ⟨_, _, ⟨e, e1⟩ | ⟨o, o1, o2, o3⟩⟩ := hd b hb
        · exact Or.inl ⟨e, by omega⟩
        · exact Or.inr ⟨o, by omega, o2, by omega⟩
      obtain ⟨r, r1, r2⟩ := ih n (c + 1) (τ.1 27 b) (acc &&& σ.2 (4 * f + w)) hx' (by omega) (by omega)
      refine ⟨r, ?_, fun k hk => ?_⟩
      · rw [← r1]
        have q36 : σ.1 36 b = nI j := by rw [e36]; exact j2
        have q38 : σ.1 38 b = τ.1 27 b := by rw [e38]
        simp (implicitDefEqProofs := false) (disch := omega) only [fx_s, bX3_failuresIn_67, mX3_beginOf, mX0_first, mX0_outer, a1, q36, q38, f3, f4, ↓bnd_e, ↓ob_s, ob_s, su_1, su_2, sl_1, sl_2, ↓ck_n, ck_n, ck_Z0, ck_Z1, c_lt, c_le, c_eq, ng_1, m_ne, m_en, m_lt, m_le, m_gt, m_ge, n_add, n_mul, n_sub, n_sm, n_pm, n_0m, n_cl, Nat.reduceEqDiff, ↓reduceIte, nle_T, nle_F, nlt_T, nlt_F, neq_F, neq_T, if_true, if_false, true_and, and_true, Nat.mul_zero, Nat.zero_add, Nat.add_zero, Nat.reduceAdd, Nat.reduceMul, Nat.reduceSub, li_0, li_1, li_2, li_3, li_4, li_5, li_6, li_7, li_8, li_9, li_10, li_11, li_12, li_13, li_14, li_15, li_16, li_20, li_24, li_28, li_31, li_35, li_38, li_40, li_41, li_45, li_48, li_60, li_62, li_63, li_97, li_100, li_104, li_105, li_120, li_124, li_127, li_180, li_239, li_240, li_255, li_256, li_300, li_400, li_960, li_1000000]
      · rw [r2 k hk, btL_and, f5 k hk]
        show _ = (btL acc k && (tlB σ τ (τ.1 25 (nI b).toNatClampNeg).toNatClampNeg (64 * w + k) && bxc τ.1 (fun j => tlB σ τ j (64 * w + k)) i (τ.1 27 (nI b).toNatClampNeg)))
        rw [n_cl (by omega), j2, n_cl (by omega), Bool.and_assoc]
theorem fails_27 {F T L B O : Nat} {σ τ : St} (h : VV F T L B O σ τ) (hf : RF F σ τ) {l w m : Nat} (hm : m ≤ L) (hw : w < 4) : ∀ d k n acc, k + d = m → d < n →
    ∃ acc', mX3_failuresIn_27 n σ (nI l) (nI w) acc (nI m) (nI k) = mX3_failuresIn_57 σ (nI l) (nI w) acc' ∧ ∀ b, b < 64 → btL acc' b = (btL acc b && pbr (fun k => tlB σ τ k (64 * w + b)) k d) := by
  have hL : L ≤ 60 := h.2.2.2.1.1
  intro d
  induction d with
  | zero =>
    intro k n acc hk hn
    obtain ⟨n, rfl⟩ : ∃ m, n = m + 1 := ⟨n - 1, by omega⟩
    refine ⟨acc, ?_, fun b hb => by simp [pbr]⟩
    simp (implicitDefEqProofs := false) (disch := omega) only [fx_s, bX3_failuresIn_27, ↓bnd_e, ↓ob_s, ob_s, su_1, su_2, sl_1, sl_2, ↓ck_n, ck_n, ck_Z0, ck_Z1, c_lt, c_le, c_eq, ng_1, m_ne, m_en, m_lt, m_le, m_gt, m_ge, n_add, n_mul, n_sub, n_sm, n_pm, n_0m, n_cl, Nat.reduceEqDiff, ↓reduceIte, nle_T, nle_F, nlt_T, nlt_F, neq_F, neq_T, if_true, if_false, true_and, and_true, Nat.mul_zero, Nat.zero_add, Nat.add_zero, Nat.reduceAdd, Nat.reduceMul, Nat.reduceSub, li_0, li_1, li_2, li_3, li_4, li_5, li_6, li_7, li_8, li_9, li_10, li_11, li_12, li_13, li_14, li_15, li_16, li_20, li_24, li_28, li_31, li_35, li_38, li_40, li_41, li_45, li_48, li_60, li_62, li_63, li_97, li_100, li_104, li_105, li_120, li_124, li_127, li_180, li_239, li_240, li_255, li_256, li_300, li_400, li_960, li_1000000]
  | succ d ih =>
    intro k n acc hk hn
    obtain ⟨n, rfl⟩ : ∃ m, n = m + 1 := ⟨n - 1, by omega⟩
    obtain ⟨f, f1, f2, f3, f4, f5⟩ := truth_line h hf (k := k) (by omega) hw
    obtain ⟨acc', r1, r2⟩ := ih (k + 1) n (acc &&& σ.2 (4 * f + w)) (by omega) (by omega)
    refine ⟨acc', ?_, fun b hb => ?_⟩
    · rw [← r1]
      simp (implicitDefEqProofs := false) (disch := omega) only [fx_s, bX3_failuresIn_27, f3, f4, ↓bnd_e, ↓ob_s, ob_s, su_1, su_2, sl_1, sl_2, ↓ck_n, ck_n, ck_Z0, ck_Z1, c_lt, c_le, c_eq, ng_1, m_ne, m_en, m_lt, m_le, m_gt, m_ge, n_add, n_mul, n_sub, n_sm, n_pm, n_0m, n_cl, Nat.reduceEqDiff, ↓reduceIte, nle_T, nle_F, nlt_T, nlt_F, neq_F, neq_T, if_true, if_false, true_and, and_true, Nat.mul_zero, Nat.zero_add, Nat.add_zero, Nat.reduceAdd, Nat.reduceMul, Nat.reduceSub, li_0, li_1, li_2, li_3, li_4, li_5, li_6, li_7, li_8, li_9, li_10, li_11, li_12, li_13, li_14, li_15, li_16, li_20, li_24, li_28, li_31, li_35, li_38, li_40, li_41, li_45, li_48, li_60, li_62, li_63, li_97, li_100, li_104, li_105, li_120, li_124, li_127, li_180, li_239, li_240, li_255, li_256, li_300, li_400, li_960, li_1000000]
    · rw [r2 b hb, btL_and, f5 b hb, Bool.and_assoc]; rfl
def FBq (σ τ : St) (l m i : Nat) (q : Nat) : Bool := (!tlB σ τ l q && pbr (fun k => tlB σ τ k q) 0 m) && bxc τ.1 (fun j => tlB σ τ j q) i (τ.1 24 l)
theorem fails_w {F T L B O : Nat} {σ τ : St} (h : VV F T L B O σ τ) (hf : RF F σ τ) {d : Nat → Nat} (hd : DP B τ.1 d) {l w m i : Nat} (hm : PM2 τ.1 L m) (hl : l < L) (hi : DX B d (τ.1 24 l) i) (hi6 : i ≤ 6) (hw : w < 4) :
    ∃ r, mX3_failuresIn σ (nI l) (nI w) = some r ∧ ∀ b, b < 64 → btL r b = FBq σ τ l m i (64 * w + b) := by
  have hL : L ≤ 60 := h.2.2.2.1.1
  have a8 := h.1.1
  have c6 := x3_prem hL h.1.1 h.2.1.2.1 hm
  obtain ⟨f, f1, f2, f3, f4, f5⟩ := truth_line h hf hl hw
  obtain ⟨acc', r1, r2⟩ := fails_27 h hf (l := l) hm.2.1 hw m 0 NF (σ.2 (4 * f + w) ^^^ (-1)) (by omega) (by have := hm.1; show m < 1000; omega)
  obtain ⟨r, s1, s2⟩ := fails_67 h hf hd hw i NF 0 (τ.1 24 l) acc' hi (by omega) (by show i < 1000; omega)
  refine ⟨r, ?_, fun b hb => ?_⟩
  · have q33 : σ.1 33 l = τ.1 24 l := by rw [h.2.1.2.2.2.1]
    have q57 : mX3_failuresIn_57 σ (nI l) (nI w) acc' = some r := by
      rw [← s1]
      simp (implicitDefEqProofs := false) (disch := omega) only [mX3_failuresIn_57, mX3_boxOf, a8, q33, ↓bnd_e, ↓ob_s, ob_s, su_1, su_2, sl_1, sl_2, ↓ck_n, ck_n, ck_Z0, ck_Z1, c_lt, c_le, c_eq, ng_1, m_ne, m_en, m_lt, m_le, m_gt, m_ge, n_add, n_mul, n_sub, n_sm, n_pm, n_0m, n_cl, Nat.reduceEqDiff, ↓reduceIte, nle_T, nle_F, nlt_T, nlt_F, neq_F, neq_T, if_true, if_false, true_and, and_true, Nat.mul_zero, Nat.zero_add, Nat.add_zero, Nat.reduceAdd, Nat.reduceMul, Nat.reduceSub, li_0, li_1, li_2, li_3, li_4, li_5, li_6, li_7, li_8, li_9, li_10, li_11, li_12, li_13, li_14, li_15, li_16, li_20, li_24, li_28, li_31, li_35, li_38, li_40, li_41, li_45, li_48, li_60, li_62, li_63, li_97, li_100, li_104, li_105, li_120, li_124, li_127, li_180, li_239, li_240, li_255, li_256, li_300, li_400, li_960, li_1000000]
    rw [← q57, ← r1]
    simp only [mX3_failuresIn, f3, f4, c6, ob_s, bnd_e, li_0]
  · rw [s2 b hb, r2 b hb, btL_not _ _ hb, f5 b hb]; rfl
theorem x3_fails {F T L B O : Nat} {σ τ : St} (h : VV F T L B O σ τ) (hf : RF F σ τ) {d : Nat → Nat} (hd : DP B τ.1 d) {l m i : Nat} (hm : PM2 τ.1 L m) (hl : l < L) (hi : DX B d (τ.1 24 l) i) (hi6 : i ≤ 6) :
    mX3_failures σ (nI l) = some (nI (bs (FBq σ τ l m i) 256)) := by
  obtain ⟨r0, x0, y0⟩ := fails_w h hf hd hm hl hi hi6 (w := 0) (by omega)
  obtain ⟨r1, x1, y1⟩ := fails_w h hf hd hm hl hi hi6 (w := 1) (by omega)
  obtain ⟨r2, x2, y2⟩ := fails_w h hf hd hm hl hi hi6 (w := 2) (by omega)
  obtain ⟨r3, x3, y3⟩ := fails_w h hf hd hm hl hi hi6 (w := 3) (by omega)
  rw [← words_bs (f := FBq σ τ l m i) (w0 := r0) (w1 := r1) (w2 := r2) (w3 := r3) (fun k hk => (y0 k hk).trans (by rw [Nat.mul_zero, Nat.zero_add])) y1 y2 y3]
  have step : ∀ w n acc r, w < 4 → acc < 1000 → mX3_failuresIn σ (nI l) (nI w) = some r → mX3_failures_4 (n + 1) σ (nI l) (nI acc) (nI w) = mX3_failures_4 n σ (nI l) (nI (acc + cb 64 (uX r))) (nI (w + 1)) := by
    intro w n acc r hw ha hr
    simp (implicitDefEqProofs := false) (disch := omega) only [fx_s, bX3_failures_4, bitCount, hr, ↓bnd_e, ↓ob_s, ob_s, su_1, su_2, sl_1, sl_2, ↓ck_n, ck_n, ck_Z0, ck_Z1, c_lt, c_le, c_eq, ng_1, m_ne, m_en, m_lt, m_le, m_gt, m_ge, n_add, n_mul, n_sub, n_sm, n_pm, n_0m, n_cl, Nat.reduceEqDiff, ↓reduceIte, nle_T, nle_F, nlt_T, nlt_F, neq_F, neq_T, if_true, if_false, true_and, and_true, Nat.mul_zero, Nat.zero_add, Nat.add_zero, Nat.reduceAdd, Nat.reduceMul, Nat.reduceSub, li_0, li_1, li_2, li_3, li_4, li_5, li_6, li_7, li_8, li_9, li_10, li_11, li_12, li_13, li_14, li_15, li_16, li_20, li_24, li_28, li_31, li_35, li_38, li_40, li_41, li_45, li_48, li_60, li_62, li_63, li_97, li_100, li_104, li_105, li_120, li_124, li_127, li_180, li_239, li_240, li_255, li_256, li_300, li_400, li_960, li_1000000]
  have le64 : ∀ X, cb 64 X ≤ 64 := fun X => by rw [cb_bs]; exact bs_le _ _
  have l0 := le64 (uX r0)
  have l1 := le64 (uX r1)
  have l2 := le64 (uX r2)
  have l3 := le64 (uX r3)
  obtain ⟨nf, hnf⟩ := NF_5
  unfold mX3_failures
  rw [hnf]
  refine (step 0 _ 0 r0 (by omega) (by omega) x0).trans ?_
  refine (step 1 _ _ r1 (by omega) (by omega) x1).trans ?_
  refine (step 2 _ _ r2 (by omega) (by omega) x2).trans ?_
  refine (step 3 _ _ r3 (by omega) (by omega) x3).trans ?_
  rw [Nat.zero_add]
  simp (implicitDefEqProofs := false) (disch := omega) only [fx_s, bX3_failures_4, ↓bnd_e, ↓ob_s, ob_s, su_1, su_2, sl_1, sl_2, ↓ck_n, ck_n, ck_Z0, ck_Z1, c_lt, c_le, c_eq, ng_1, m_ne, m_en, m_lt, m_le, m_gt, m_ge, n_add, n_mul, n_sub, n_sm, n_pm, n_0m, n_cl, Nat.reduceEqDiff, ↓reduceIte, nle_T, nle_F, nlt_T, nlt_F, neq_F, neq_T, if_true, if_false, true_and, and_true, Nat.mul_zero, Nat.zero_add, Nat.add_zero, Nat.reduceAdd, Nat.reduceMul, Nat.reduceSub, li_0, li_1, li_2, li_3, li_4, li_5, li_6, li_7, li_8, li_9, li_10, li_11, li_12, li_13, li_14, li_15, li_16, li_20, li_24, li_28, li_31, li_35, li_38, li_40, li_41, li_45, li_48, li_60, li_62, li_63, li_97, li_100, li_104, li_105, li_120, li_124, li_127, li_180, li_239, li_240, li_255, li_256, li_300, li_400, li_960, li_1000000]
theorem true_line {F T L B O : Nat} {σ τ : St} (h : VV F T L B O σ τ) (hf : RF F σ τ) {k q : Nat} (hk : k < L) (hq : q < 256) : mX8_isTrueAt τ (τ.1 21 k) (nI q) = some (zB (tlB σ τ k q)) := by
  have hF := hf.le
  obtain ⟨⟨f, f1, f2⟩, _⟩ := h.2.2.2.2.1 k hk
  have e := x8_it (t := τ) (p := f) (k := q) (by omega) hq (hf.tr f f1 q hq)
  rw [f2, e]
  unfold tlB
  rw [f2, n_cl (by omega)]
theorem m8_68 {F T L B O : Nat} {σ τ : St} (h : VV F T L B O σ τ) (hf : RF F σ τ) {l m q : Nat} (hm : m ≤ L) (hq : q < 256) (kh) (acc : Int32) : ∀ d k n a, k + d = m → d < n →
    mX8_fails_68 kh n τ (nI l) acc (nI m) (nI q) (zB a) (nI k) = mX8_fails_108 kh τ (nI l) acc (nI m) (nI q) (zB (a && pbr (fun k => tlB σ τ k q) k d)) := by
  have hL : L ≤ 60 := h.2.2.2.1.1
  intro d
  induction d with
  | zero =>
    intro k n a hk hn
    obtain ⟨n, rfl⟩ : ∃ m, n = m + 1 := ⟨n - 1, by omega⟩
    have e : (a && pbr (fun k => tlB σ τ k q) k 0) = a := by simp [pbr]
    rw [e]
    simp (implicitDefEqProofs := false) (disch := omega) only [fx_s, bX8_fails_68, ↓bnd_e, ↓ob_s, ob_s, su_1, su_2, sl_1, sl_2, ↓ck_n, ck_n, ck_Z0, ck_Z1, c_lt, c_le, c_eq, ng_1, m_ne, m_en, m_lt, m_le, m_gt, m_ge, n_add, n_mul, n_sub, n_sm, n_pm, n_0m, n_cl, Nat.reduceEqDiff, ↓reduceIte, nle_T, nle_F, nlt_T, nlt_F, neq_F, neq_T, if_true, if_false, true_and, and_true, Nat.mul_zero, Nat.zero_add, Nat.add_zero, Nat.reduceAdd, Nat.reduceMul, Nat.reduceSub, li_0, li_1, li_2, li_3, li_4, li_5, li_6, li_7, li_8, li_9, li_10, li_11, li_12, li_13, li_14, li_15, li_16, li_20, li_24, li_28, li_31, li_35, li_38, li_40, li_41, li_45, li_48, li_60, li_62, li_63, li_97, li_100, li_104, li_105, li_120, li_124, li_127, li_180, li_239, li_240, li_255, li_256, li_300, li_400, li_960, li_1000000]
  | succ d ih =>
    intro k n a hk hn
    obtain ⟨n, rfl⟩ : ∃ m, n = m + 1 := ⟨n - 1, by omega⟩
    have t := true_line h hf (k := k) (by omega) hq
    have e : (a && pbr (fun k => tlB σ τ k q) k (d + 1)) = ((a && tlB σ τ k q) && pbr (fun k => tlB σ τ k q) (k + 1) d) := by rw [Bool.and_assoc]; rfl
    rw [e, ← ih (k + 1) n (a && tlB σ τ k q) (by omega) (by omega)]
    cases a
    · rw [Bool.false_and, zB_0]
      simp (implicitDefEqProofs := false) (disch := omega) only [fx_s, bX8_fails_68, mX8_fails_99, mX8_fails_100, ↓bnd_e, ↓ob_s, ob_s, su_1, su_2, sl_1, sl_2, ↓ck_n, ck_n, ck_Z0, ck_Z1, c_lt, c_le, c_eq, ng_1, m_ne, m_en, m_lt, m_le, m_gt, m_ge, n_add, n_mul, n_sub, n_sm, n_pm, n_0m, n_cl, Nat.reduceEqDiff, ↓reduceIte, nle_T, nle_F, nlt_T, nlt_F, neq_F, neq_T, if_true, if_false, true_and, and_true, Nat.mul_zero, Nat.zero_add, Nat.add_zero, Nat.reduceAdd, Nat.reduceMul, Nat.reduceSub, li_0, li_1, li_2, li_3, li_4, li_5, li_6, li_7, li_8, li_9, li_10, li_11, li_12, li_13, li_14, li_15, li_16, li_20, li_24, li_28, li_31, li_35, li_38, li_40, li_41, li_45, li_48, li_60, li_62, li_63, li_97, li_100, li_104, li_105, li_120, li_124, li_127, li_180, li_239, li_240, li_255, li_256, li_300, li_400, li_960, li_1000000]
    · rw [Bool.true_and, zB_1]
      cases hb : tlB σ τ k q
      · rw [hb, zB_0] at t
        rw [zB_0]
        simp (implicitDefEqProofs := false) (disch := omega) only [fx_s, bX8_fails_68, mX8_fails_99, mX8_fails_100, t, ↓bnd_e, ↓ob_s, ob_s, su_1, su_2, sl_1, sl_2, ↓ck_n, ck_n, ck_Z0, ck_Z1, c_lt, c_le, c_eq, ng_1, m_ne, m_en, m_lt, m_le, m_gt, m_ge, n_add, n_mul, n_sub, n_sm, n_pm, n_0m, n_cl, Nat.reduceEqDiff, ↓reduceIte, nle_T, nle_F, nlt_T, nlt_F, neq_F, neq_T, if_true, if_false, true_and, and_true, Nat.mul_zero, Nat.zero_add, Nat.add_zero, Nat.reduceAdd, Nat.reduceMul, Nat.reduceSub, li_0, li_1, li_2, li_3, li_4, li_5, li_6, li_7, li_8, li_9, li_10, li_11, li_12, li_13, li_14, li_15, li_16, li_20, li_24, li_28, li_31, li_35, li_38, li_40, li_41, li_45, li_48, li_60, li_62, li_63, li_97, li_100, li_104, li_105, li_120, li_124, li_127, li_180, li_239, li_240, li_255, li_256, li_300, li_400, li_960, li_1000000]
      · rw [hb, zB_1] at t
        rw [zB_1]
        simp (implicitDefEqProofs := false) (disch := omega) only [fx_s, bX8_fails_68, mX8_fails_99, mX8_fails_100, t, ↓bnd_e, ↓ob_s, ob_s, su_1, su_2, sl_1, sl_2, ↓ck_n, ck_n, ck_Z0, ck_Z1, c_lt, c_le, c_eq, ng_1, m_ne, m_en, m_lt, m_le, m_gt, m_ge, n_add, n_mul, n_sub, n_sm, n_pm, n_0m, n_cl, Nat.reduceEqDiff, ↓reduceIte, nle_T, nle_F, nlt_T, nlt_F, neq_F, neq_T, if_true, if_false, true_and, and_true, Nat.mul_zero, Nat.zero_add, Nat.add_zero, Nat.reduceAdd, Nat.reduceMul, Nat.reduceSub, li_0, li_1, li_2, li_3, li_4, li_5, li_6, li_7, li_8, li_9, li_10, li_11, li_12, li_13, li_14, li_15, li_16, li_20, li_24, li_28, li_31, li_35, li_38, li_40, li_41, li_45, li_48, li_60, li_62, li_63, li_97, li_100, li_104, li_105, li_120, li_124, li_127, li_180, li_239, li_240, li_255, li_256, li_300, li_400, li_960, li_1000000]
theorem m8_116 {F T L B O : Nat} {σ τ : St} (h : VV F T L B O σ τ) (hf : RF F σ τ) {d : Nat → Nat} (hd : DP B τ.1 d) {l m q : Nat} (hq : q < 256) (kh) (acc : Int32) : ∀ i n a x, DX B d x i → i < n →
    mX8_fails_116 kh n τ (nI l) acc (nI m) (nI q) (zB a) x = mX8_fails_167 kh τ (nI l) acc (nI m) (nI q) (zB (a && bxc τ.1 (fun j => tlB σ τ j q) i x)) := by
  have hL : L ≤ 60 := h.2.2.2.1.1
  have hB : B ≤ 60 := by have := h.2.2.2.1.2.1; omega
  intro i
  induction i with
  | zero =>
    intro n a x hx hn
    obtain ⟨n, rfl⟩ : ∃ m, n = m + 1 := ⟨n - 1, by omega⟩
    have hx' : x = mI := by
      rcases hx with ⟨e, _⟩ | ⟨b, hb, _, e⟩
      · exact e
      · have := (hd b hb).1; omega
    subst hx'
    have e : (a && bxc τ.1 (fun j => tlB σ τ j q) 0 mI) = a := by simp [bxc]
    rw [e]
    simp (implicitDefEqProofs := false) (disch := omega) only [fx_s, bX8_fails_116, ↓bnd_e, ↓ob_s, ob_s, su_1, su_2, sl_1, sl_2, ↓ck_n, ck_n, ck_Z0, ck_Z1, c_lt, c_le, c_eq, ng_1, m_ne, m_en, m_lt, m_le, m_gt, m_ge, n_add, n_mul, n_sub, n_sm, n_pm, n_0m, n_cl, Nat.reduceEqDiff, ↓reduceIte, nle_T, nle_F, nlt_T, nlt_F, neq_F, neq_T, if_true, if_false, true_and, and_true, Nat.mul_zero, Nat.zero_add, Nat.add_zero, Nat.reduceAdd, Nat.reduceMul, Nat.reduceSub, li_0, li_1, li_2, li_3, li_4, li_5, li_6, li_7, li_8, li_9, li_10, li_11, li_12, li_13, li_14, li_15, li_16, li_20, li_24, li_28, li_31, li_35, li_38, li_40, li_41, li_45, li_48, li_60, li_62, li_63, li_97, li_100, li_104, li_105, li_120, li_124, li_127, li_180, li_239, li_240, li_255, li_256, li_300, li_400, li_960, li_1000000]
  | succ i ih =>
    intro n a x hx hn
    obtain ⟨n, rfl⟩ : ∃ m, n = m + 1 := ⟨n - 1, by omega⟩
    rcases hx with ⟨_, e⟩ | ⟨b, hb, rfl, hdb⟩
    · omega
    · obtain ⟨_, j, j1, j2, j3⟩ := h.2.2.2.2.2.2.2.1 b hb
      have t := true_line h hf j1 hq
      have hx' : DX B d (τ.1 27 b) i := by
        obtain ⟨_, _, ⟨e, e1⟩ | ⟨o, o1, o2, o3⟩⟩ := hd b hb
        · exact Or.inl ⟨e, by omega⟩
        · exact Or.inr ⟨o, by omega, o2, by omega⟩
      have e : (a && bxc τ.1 (fun j => tlB σ τ j q) (i + 1) (nI b)) = ((a && tlB σ τ j q) && bxc τ.1 (fun j => tlB σ τ j q) i (τ.1 27 b)) := by
        show (a && (tlB σ τ (τ.1 25 (nI b).toNatClampNeg).toNatClampNeg q && bxc τ.1 (fun j => tlB σ τ j q) i (τ.1 27 (nI b).toNatClampNeg))) = _
        rw [n_cl (by omega), j2, n_cl (by omega), Bool.and_assoc]
      rw [e, ← ih n (a && tlB σ τ j q) (τ.1 27 b) hx' (by omega)]
      cases a
      · rw [Bool.false_and, zB_0]
        simp (implicitDefEqProofs := false) (disch := omega) only [fx_s, bX8_fails_116, mX8_fails_152, mX8_fails_153, ↓bnd_e, ↓ob_s, ob_s, su_1, su_2, sl_1, sl_2, ↓ck_n, ck_n, ck_Z0, ck_Z1, c_lt, c_le, c_eq, ng_1, m_ne, m_en, m_lt, m_le, m_gt, m_ge, n_add, n_mul, n_sub, n_sm, n_pm, n_0m, n_cl, Nat.reduceEqDiff, ↓reduceIte, nle_T, nle_F, nlt_T, nlt_F, neq_F, neq_T, if_true, if_false, true_and, and_true, Nat.mul_zero, Nat.zero_add, Nat.add_zero, Nat.reduceAdd, Nat.reduceMul, Nat.reduceSub, li_0, li_1, li_2, li_3, li_4, li_5, li_6, li_7, li_8, li_9, li_10, li_11, li_12, li_13, li_14, li_15, li_16, li_20, li_24, li_28, li_31, li_35, li_38, li_40, li_41, li_45, li_48, li_60, li_62, li_63, li_97, li_100, li_104, li_105, li_120, li_124, li_127, li_180, li_239, li_240, li_255, li_256, li_300, li_400, li_960, li_1000000]
      · rw [Bool.true_and, zB_1]
        cases hb : tlB σ τ j q
        · rw [hb, zB_0] at t
          rw [zB_0]
          simp (implicitDefEqProofs := false) (disch := omega) only [fx_s, bX8_fails_116, mX8_fails_152, mX8_fails_153, j2, t, ↓bnd_e, ↓ob_s, ob_s, su_1, su_2, sl_1, sl_2, ↓ck_n, ck_n, ck_Z0, ck_Z1, c_lt, c_le, c_eq, ng_1, m_ne, m_en, m_lt, m_le, m_gt, m_ge, n_add, n_mul, n_sub, n_sm, n_pm, n_0m, n_cl, Nat.reduceEqDiff, ↓reduceIte, nle_T, nle_F, nlt_T, nlt_F, neq_F, neq_T, if_true, if_false, true_and, and_true, Nat.mul_zero, Nat.zero_add, Nat.add_zero, Nat.reduceAdd, Nat.reduceMul, Nat.reduceSub, li_0, li_1, li_2, li_3, li_4, li_5, li_6, li_7, li_8, li_9, li_10, li_11, li_12, li_13, li_14, li_15, li_16, li_20, li_24, li_28, li_31, li_35, li_38, li_40, li_41, li_45, li_48, li_60, li_62, li_63, li_97, li_100, li_104, li_105, li_120, li_124, li_127, li_180, li_239, li_240, li_255, li_256, li_300, li_400, li_960, li_1000000]
        · rw [hb, zB_1] at t
          rw [zB_1]
          simp (implicitDefEqProofs := false) (disch := omega) only [fx_s, bX8_fails_116, mX8_fails_152, mX8_fails_153, j2, t, ↓bnd_e, ↓ob_s, ob_s, su_1, su_2, sl_1, sl_2, ↓ck_n, ck_n, ck_Z0, ck_Z1, c_lt, c_le, c_eq, ng_1, m_ne, m_en, m_lt, m_le, m_gt, m_ge, n_add, n_mul, n_sub, n_sm, n_pm, n_0m, n_cl, Nat.reduceEqDiff, ↓reduceIte, nle_T, nle_F, nlt_T, nlt_F, neq_F, neq_T, if_true, if_false, true_and, and_true, Nat.mul_zero, Nat.zero_add, Nat.add_zero, Nat.reduceAdd, Nat.reduceMul, Nat.reduceSub, li_0, li_1, li_2, li_3, li_4, li_5, li_6, li_7, li_8, li_9, li_10, li_11, li_12, li_13, li_14, li_15, li_16, li_20, li_24, li_28, li_31, li_35, li_38, li_40, li_41, li_45, li_48, li_60, li_62, li_63, li_97, li_100, li_104, li_105, li_120, li_124, li_127, li_180, li_239, li_240, li_255, li_256, li_300, li_400, li_960, li_1000000]
theorem m8_35 {F T L B O : Nat} {σ τ : St} (h : VV F T L B O σ τ) (hf : RF F σ τ) {d : Nat → Nat} (hd : DP B τ.1 d) {l m i : Nat} (hm : PM2 τ.1 L m) (hl : l < L) (hi : DX B d (τ.1 24 l) i) (hi6 : i ≤ 6) : ∀ e q n, q + e = 256 → e < n →
    mX8_fails_35 n τ (nI l) (nI (bs (FBq σ τ l m i) q)) (nI m) (nI q) = some (nI (bs (FBq σ τ l m i) 256), τ) := by
  have hL : L ≤ 60 := h.2.2.2.1.1
  intro e
  induction e with
  | zero =>
    intro q n hq hn
    obtain ⟨n, rfl⟩ : ∃ m, n = m + 1 := ⟨n - 1, by omega⟩
    have : q = 256 := by omega
    subst this
    simp (implicitDefEqProofs := false) (disch := omega) only [fx_s, bX8_fails_35, ↓bnd_e, ↓ob_s, ob_s, su_1, su_2, sl_1, sl_2, ↓ck_n, ck_n, ck_Z0, ck_Z1, c_lt, c_le, c_eq, ng_1, m_ne, m_en, m_lt, m_le, m_gt, m_ge, n_add, n_mul, n_sub, n_sm, n_pm, n_0m, n_cl, Nat.reduceEqDiff, ↓reduceIte, nle_T, nle_F, nlt_T, nlt_F, neq_F, neq_T, if_true, if_false, true_and, and_true, Nat.mul_zero, Nat.zero_add, Nat.add_zero, Nat.reduceAdd, Nat.reduceMul, Nat.reduceSub, li_0, li_1, li_2, li_3, li_4, li_5, li_6, li_7, li_8, li_9, li_10, li_11, li_12, li_13, li_14, li_15, li_16, li_20, li_24, li_28, li_31, li_35, li_38, li_40, li_41, li_45, li_48, li_60, li_62, li_63, li_97, li_100, li_104, li_105, li_120, li_124, li_127, li_180, li_239, li_240, li_255, li_256, li_300, li_400, li_960, li_1000000]
  | succ e ih =>
    intro q n hq hn
    obtain ⟨n, rfl⟩ : ∃ m, n = m + 1 := ⟨n - 1, by omega⟩
    rw [← ih (q + 1) n (by omega) (by omega)]
    have t := true_line h hf hl (q := q) (by omega)
    have s : bs (FBq σ τ l m i) (q + 1) = bs (FBq σ τ l m i) q + (if FBq σ τ l m i q then 1 else 0) := rfl
    have m1 : mX8_fails_35 (n + 1) τ (nI l) (nI (bs (FBq σ τ l m i) q)) (nI m) (nI q) = mX8_fails_68 (mX8_fails_35 n) NF τ (nI l) (nI (bs (FBq σ τ l m i) q)) (nI m) (nI q) (zB (!tlB σ τ l q)) (nI 0) := by
      cases hb : tlB σ τ l q
      · rw [hb, zB_0] at t
        rw [Bool.not_false, zB_1]
        simp (implicitDefEqProofs := false) (disch := omega) only [fx_s, bX8_fails_35, mX8_fails_63, t, ↓bnd_e, ↓ob_s, ob_s, su_1, su_2, sl_1, sl_2, ↓ck_n, ck_n, ck_Z0, ck_Z1, c_lt, c_le, c_eq, ng_1, m_ne, m_en, m_lt, m_le, m_gt, m_ge, n_add, n_mul, n_sub, n_sm, n_pm, n_0m, n_cl, Nat.reduceEqDiff, ↓reduceIte, nle_T, nle_F, nlt_T, nlt_F, neq_F, neq_T, if_true, if_false, true_and, and_true, Nat.mul_zero, Nat.zero_add, Nat.add_zero, Nat.reduceAdd, Nat.reduceMul, Nat.reduceSub, li_0, li_1, li_2, li_3, li_4, li_5, li_6, li_7, li_8, li_9, li_10, li_11, li_12, li_13, li_14, li_15, li_16, li_20, li_24, li_28, li_31, li_35, li_38, li_40, li_41, li_45, li_48, li_60, li_62, li_63, li_97, li_100, li_104, li_105, li_120, li_124, li_127, li_180, li_239, li_240, li_255, li_256, li_300, li_400, li_960, li_1000000]
      · rw [hb, zB_1] at t
        rw [Bool.not_true, zB_0]
        simp (implicitDefEqProofs := false) (disch := omega) only [fx_s, bX8_fails_35, mX8_fails_63, t, ↓bnd_e, ↓ob_s, ob_s, su_1, su_2, sl_1, sl_2, ↓ck_n, ck_n, ck_Z0, ck_Z1, c_lt, c_le, c_eq, ng_1, m_ne, m_en, m_lt, m_le, m_gt, m_ge, n_add, n_mul, n_sub, n_sm, n_pm, n_0m, n_cl, Nat.reduceEqDiff, ↓reduceIte, nle_T, nle_F, nlt_T, nlt_F, neq_F, neq_T, if_true, if_false, true_and, and_true, Nat.mul_zero, Nat.zero_add, Nat.add_zero, Nat.reduceAdd, Nat.reduceMul, Nat.reduceSub, li_0, li_1, li_2, li_3, li_4, li_5, li_6, li_7, li_8, li_9, li_10, li_11, li_12, li_13, li_14, li_15, li_16, li_20, li_24, li_28, li_31, li_35, li_38, li_40, li_41, li_45, li_48, li_60, li_62, li_63, li_97, li_100, li_104, li_105, li_120, li_124, li_127, li_180, li_239, li_240, li_255, li_256, li_300, li_400, li_960, li_1000000]
    have m2 := m8_68 h hf (l := l) (q := q) hm.2.1 (by omega) (mX8_fails_35 n) (nI (bs (FBq σ τ l m i) q)) m 0 NF (!tlB σ τ l q) (by omega) (by have := hm.1; show m < 1000; omega)
    have m3 := m8_116 h hf hd (l := l) (m := m) (q := q) (by omega) (mX8_fails_35 n) (nI (bs (FBq σ τ l m i) q)) i NF (!tlB σ τ l q && pbr (fun k => tlB σ τ k q) 0 m) (τ.1 24 l) hi (by show i < 1000; omega)
    rw [m1, m2]
    unfold mX8_fails_108
    rw [ck_n _ (by omega) (by omega), bnd_e, n_cl (by omega), m3]
    show mX8_fails_167 (mX8_fails_35 n) τ (nI l) (nI (bs (FBq σ τ l m i) q)) (nI m) (nI q) (zB (FBq σ τ l m i q)) = _
    rw [s]
    cases FBq σ τ l m i q
    · rw [zB_0]
      simp (implicitDefEqProofs := false) (disch := omega) only [mX8_fails_167, mX8_fails_178, Bool.false_eq_true, ↓bnd_e, ↓ob_s, ob_s, su_1, su_2, sl_1, sl_2, ↓ck_n, ck_n, ck_Z0, ck_Z1, c_lt, c_le, c_eq, ng_1, m_ne, m_en, m_lt, m_le, m_gt, m_ge, n_add, n_mul, n_sub, n_sm, n_pm, n_0m, n_cl, Nat.reduceEqDiff, ↓reduceIte, nle_T, nle_F, nlt_T, nlt_F, neq_F, neq_T, if_true, if_false, true_and, and_true, Nat.mul_zero, Nat.zero_add, Nat.add_zero, Nat.reduceAdd, Nat.reduceMul, Nat.reduceSub, li_0, li_1, li_2, li_3, li_4, li_5, li_6, li_7, li_8, li_9, li_10, li_11, li_12, li_13, li_14, li_15, li_16, li_20, li_24, li_28, li_31, li_35, li_38, li_40, li_41, li_45, li_48, li_60, li_62, li_63, li_97, li_100, li_104, li_105, li_120, li_124, li_127, li_180, li_239, li_240, li_255, li_256, li_300, li_400, li_960, li_1000000]
    · rw [zB_1]
      simp (implicitDefEqProofs := false) (disch := omega) only [mX8_fails_167, mX8_fails_178, ↓bnd_e, ↓ob_s, ob_s, su_1, su_2, sl_1, sl_2, ↓ck_n, ck_n, ck_Z0, ck_Z1, c_lt, c_le, c_eq, ng_1, m_ne, m_en, m_lt, m_le, m_gt, m_ge, n_add, n_mul, n_sub, n_sm, n_pm, n_0m, n_cl, Nat.reduceEqDiff, ↓reduceIte, nle_T, nle_F, nlt_T, nlt_F, neq_F, neq_T, if_true, if_false, true_and, and_true, Nat.mul_zero, Nat.zero_add, Nat.add_zero, Nat.reduceAdd, Nat.reduceMul, Nat.reduceSub, li_0, li_1, li_2, li_3, li_4, li_5, li_6, li_7, li_8, li_9, li_10, li_11, li_12, li_13, li_14, li_15, li_16, li_20, li_24, li_28, li_31, li_35, li_38, li_40, li_41, li_45, li_48, li_60, li_62, li_63, li_97, li_100, li_104, li_105, li_120, li_124, li_127, li_180, li_239, li_240, li_255, li_256, li_300, li_400, li_960, li_1000000]
theorem P_fails {σ τ : St} (h : RR σ τ) (p1 : Int32) : (∃ (r : Int32) (τ' : St), mX7_fails σ p1 = some r ∧ mX8_fails τ p1 = some (r, τ') ∧ τ'.1 0 0 = 0 ∧ RR σ τ') ∨ (∃ (v : Int32) (τ' : St), tX7_fails σ p1 = some 3 ∧ mX8_fails τ p1 = some (v, τ') ∧ τ'.1 0 0 = 1 ∧ RR σ τ') := by
  have hR := RR_thr h
  have hR2 := fun v w => RR_thr (RR_thr h v) w
  obtain ⟨F, T, hf, ht, hp, hh, hv⟩ := h
  obtain ⟨L, B, O, hV⟩ := hv.vv
  have hL : L ≤ 60 := hV.2.2.2.1.1
  have a8 := hV.1.1
  have a6 := hV.1.2.1
  have kz : KE [0] τ (su τ 0 (fun _ => nI 0)) := KE.rf.s (by decide)
  have hV' : VV F T L B O σ (su τ 0 (fun _ => nI 0)) := hV.k hh.1.1 (KE.rf (l := [])) kz (by decide) (by decide)
  have hf' : RF F σ (su τ 0 (fun _ => nI 0)) := hf.c (fun _ _ => rfl) rfl (.k kz (by decide))
  rcases x8_in1 p1 L (by omega) with ⟨l, hl, rfl, h1⟩ | ⟨h1, h2⟩
  · obtain ⟨m, hm⟩ := prem_ex hV'.2.2.2
    have c6 := x8_prem (τ := su τ 0 (fun _ => nI 0)) (L := L) (m := m) hL a6 hm
    obtain ⟨d, dd, _⟩ := hV'.2.2.2.2.2.2.1
    obtain ⟨_, hb, _⟩ := hV'.2.2.2.2.1 l hl
    obtain ⟨i, hi, hi6⟩ : ∃ i, DX B d ((su τ 0 (fun _ => nI 0)).1 24 l) i ∧ i ≤ 6 := by
      rcases hb with e | ⟨b, b1, b2⟩
      · exact ⟨0, Or.inl ⟨e, rfl⟩, by omega⟩
      · exact ⟨d b, Or.inr ⟨b, b1, b2, rfl⟩, (dd b b1).2.1⟩
    have e7 := x3_fails hV' hf' dd hm hl hi hi6
    have e8 := m8_35 hV' hf' dd hm hl hi hi6 256 0 NF (by omega) (by decide)
    refine Or.inl ⟨nI (bs (FBq σ (su τ 0 (fun _ => nI 0)) l m i) 256), su τ 0 (fun _ => nI 0), ?_, ?_, rfl, hR _⟩
    · simp (implicitDefEqProofs := false) (disch := omega) only [mX7_fails, mX3_lineCount, a8, e7, ↓bnd_e, ↓ob_s, ob_s, su_1, su_2, sl_1, sl_2, ↓ck_n, ck_n, ck_Z0, ck_Z1, c_lt, c_le, c_eq, ng_1, m_ne, m_en, m_lt, m_le, m_gt, m_ge, n_add, n_mul, n_sub, n_sm, n_pm, n_0m, n_cl, Nat.reduceEqDiff, ↓reduceIte, nle_T, nle_F, nlt_T, nlt_F, neq_F, neq_T, if_true, if_false, true_and, and_true, Nat.mul_zero, Nat.zero_add, Nat.add_zero, Nat.reduceAdd, Nat.reduceMul, Nat.reduceSub, li_0, li_1, li_2, li_3, li_4, li_5, li_6, li_7, li_8, li_9, li_10, li_11, li_12, li_13, li_14, li_15, li_16, li_20, li_24, li_28, li_31, li_35, li_38, li_40, li_41, li_45, li_48, li_60, li_62, li_63, li_97, li_100, li_104, li_105, li_120, li_124, li_127, li_180, li_239, li_240, li_255, li_256, li_300, li_400, li_960, li_1000000]
    · have e80 : mX8_fails_35 NF (su τ 0 (fun _ => nI 0)) (nI l) (nI 0) (nI m) (nI 0) = some (nI (bs (FBq σ (su τ 0 (fun _ => nI 0)) l m i) 256), su τ 0 (fun _ => nI 0)) := e8
      simp only [mX8_fails, li_0, li_1, bnd_e, su_1, Nat.reduceEqDiff, ↓reduceIte, a6, h1, c6, e80, ob_s]
      exact if_neg (by decide)
  · refine Or.inr ⟨nI 0, su (su τ 0 (fun _ => nI 0)) 0 (fun _ => nI 1), ?_, ?_, rfl, hR2 _ _⟩
    · rcases h1 with h1 | ⟨h1, h3, h6⟩
      · simp (implicitDefEqProofs := false) (disch := omega) only [tX7_fails, mX3_lineCount, h1, ↓bnd_e, ↓ob_s, ob_s, su_1, su_2, sl_1, sl_2, ↓ck_n, ck_n, ck_Z0, ck_Z1, c_lt, c_le, c_eq, ng_1, m_ne, m_en, m_lt, m_le, m_gt, m_ge, n_add, n_mul, n_sub, n_sm, n_pm, n_0m, n_cl, Nat.reduceEqDiff, ↓reduceIte, nle_T, nle_F, nlt_T, nlt_F, neq_F, neq_T, if_true, if_false, true_and, and_true, Nat.mul_zero, Nat.zero_add, Nat.add_zero, Nat.reduceAdd, Nat.reduceMul, Nat.reduceSub, li_0, li_1, li_2, li_3, li_4, li_5, li_6, li_7, li_8, li_9, li_10, li_11, li_12, li_13, li_14, li_15, li_16, li_20, li_24, li_28, li_31, li_35, li_38, li_40, li_41, li_45, li_48, li_60, li_62, li_63, li_97, li_100, li_104, li_105, li_120, li_124, li_127, li_180, li_239, li_240, li_255, li_256, li_300, li_400, li_960, li_1000000]
      · simp (implicitDefEqProofs := false) (disch := omega) only [tX7_fails, mX3_lineCount, a8, h1, h6, ↓bnd_e, ↓ob_s, ob_s, su_1, su_2, sl_1, sl_2, ↓ck_n, ck_n, ck_Z0, ck_Z1, c_lt, c_le, c_eq, ng_1, m_ne, m_en, m_lt, m_le, m_gt, m_ge, n_add, n_mul, n_sub, n_sm, n_pm, n_0m, n_cl, Nat.reduceEqDiff, ↓reduceIte, nle_T, nle_F, nlt_T, nlt_F, neq_F, neq_T, if_true, if_false, true_and, and_true, Nat.mul_zero, Nat.zero_add, Nat.add_zero, Nat.reduceAdd, Nat.reduceMul, Nat.reduceSub, li_0, li_1, li_2, li_3, li_4, li_5, li_6, li_7, li_8, li_9, li_10, li_11, li_12, li_13, li_14, li_15, li_16, li_20, li_24, li_28, li_31, li_35, li_38, li_40, li_41, li_45, li_48, li_60, li_62, li_63, li_97, li_100, li_104, li_105, li_120, li_124, li_127, li_180, li_239, li_240, li_255, li_256, li_300, li_400, li_960, li_1000000]
    · simp only [mX8_fails, mX8_no, li_0, li_1, bnd_e, su_1, Nat.reduceEqDiff, ↓reduceIte, a6, h2, ob_s]
