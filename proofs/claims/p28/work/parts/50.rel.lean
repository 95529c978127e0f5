def zB (b : Bool) : Int32 := if b then nI 1 else nI 0
theorem zB_1 : zB true = nI 1 := rfl
theorem zB_0 : zB false = nI 0 := rfl
theorem vz_1 : vp_nar .boolean (nI 1) = nI 1 := rfl
theorem vz_0 : vp_nar .boolean (nI 0) = nI 0 := rfl
/-- whether the new formula is true for a set -/
def VB (σ : St) (s l p q : Nat) (k : Nat) : Bool :=
  if s = 0 then decide (k / 2 ^ l % 2 = 1) else if s = 1 then false
  else if s = 2 then !btL (σ.2 (4 * p + k / 64)) (k % 64)
  else if s = 3 then btL (σ.2 (4 * p + k / 64)) (k % 64) && btL (σ.2 (4 * q + k / 64)) (k % 64)
  else if s = 4 then btL (σ.2 (4 * p + k / 64)) (k % 64) || btL (σ.2 (4 * q + k / 64)) (k % 64)
  else !btL (σ.2 (4 * p + k / 64)) (k % 64) || btL (σ.2 (4 * q + k / 64)) (k % 64)
theorem sh_l : ∀ l, l < 8 → ((nI l &&& nI 31).toBitVec.smod 32).toNat = l := by decide +kernel
theorem bit_l {k l : Nat} (hk : k < 256) (hl : l < 8) : (nI k >>> (nI l &&& nI 31)) &&& nI 1 = nI (k / 2 ^ l % 2) := by
  rw [pk_shrN (by omega) _ l (sh_l l hl)]
  have : k / 2 ^ l ≤ k := Nat.div_le_self _ _
  exact pk_andN (by omega) 1 (by decide)
theorem x8_it {t : St} {p k : Nat} {b : Bool} (hp : p < 240) (hk : k < 256) (h : t.1 20 (256 * p + k) = zB b) : mX8_isTrueAt t (nI p) (nI k) = some (zB b) := by
  have e := orix (j := p) (q := k) (by omega) hk
  cases b <;> simp (disch := omega) only [mX8_isTrueAt, e, h, zB_1, zB_0, bnd_e, ob_s, su_1, su_2, sl_1, sl_2, ck_n, ck_Z0, ck_Z1, c_lt, c_le, c_eq, ng_1, m_ne, m_en, m_lt, m_le, m_gt, m_ge, n_add, n_mul, n_sub, n_sm, n_pm, n_0m, n_cl, Nat.reduceEqDiff, reduceIte, if_pos, if_neg, if_true, if_false, true_and, and_true, Nat.mul_zero, Nat.zero_add, Nat.add_zero, Nat.reduceAdd, Nat.reduceMul, Nat.reduceSub, li_0, li_1, li_2, li_3, li_4, li_5, li_6, li_7, li_8, li_9, li_10, li_11, li_12, li_13, li_14, li_15, li_16, li_20, li_24, li_28, li_31, li_35, li_38, li_40, li_41, li_45, li_48, li_60, li_62, li_63, li_97, li_100, li_104, li_105, li_120, li_124, li_127, li_180, li_239, li_240, li_255, li_256, li_300, li_400, li_960, li_1000000]
theorem told_2 (t : St) (a b : Bool) : mX8_told t (nI 2) (zB a) (zB b) = some (zB (!a)) := by cases a <;> cases b <;> rfl
theorem told_3 (t : St) (a b : Bool) : mX8_told t (nI 3) (zB a) (zB b) = some (zB (a && b)) := by cases a <;> cases b <;> rfl
theorem told_4 (t : St) (a b : Bool) : mX8_told t (nI 4) (zB a) (zB b) = some (zB (a || b)) := by cases a <;> cases b <;> rfl
theorem told_5 (t : St) (a b : Bool) : mX8_told t (nI 5) (zB a) (zB b) = some (zB (!a || b)) := by cases a <;> cases b <;> rfl
/-- the arguments, as numbers -/
def AX (F s l p q : Nat) (x y : Int32) : Prop :=
  (s = 0 ∧ l < 8 ∧ x = nI l ∧ y = mI) ∨ (s = 1 ∧ x = mI ∧ y = mI) ∨ (s = 2 ∧ p < F ∧ x = nI p ∧ y = mI)
    ∨ (3 ≤ s ∧ s ≤ 5 ∧ p < F ∧ q < F ∧ x = nI p ∧ y = nI q)
theorem x8_229 {t : St} {F s : Nat} (hF : F < 240) {k : Nat} (hk : k < 256) (x y : Int32) (kh) (a b c : Bool) (h : mX8_told t (nI s) (zB a) (zB b) = some (zB c)) :
    mX8_known_229 kh t (nI s) x y (nI F) (nI k) (zB b) (zB a) (nI s) (nI (256 * F + k)) = kh (su t 20 (upd (t.1 20) (256 * F + k) (zB c))) (nI s) x y (nI F) (nI (k + 1)) := by
  cases c
  · simp (disch := omega) only [mX8_known_229, mX8_known_239, mX8_known_240, h, vz_1, vz_0, zB_0, bnd_e, ob_s, su_1, su_2, sl_1, sl_2, ck_n, ck_Z0, ck_Z1, c_lt, c_le, c_eq, ng_1, m_ne, m_en, m_lt, m_le, m_gt, m_ge, n_add, n_mul, n_sub, n_sm, n_pm, n_0m, n_cl, Nat.reduceEqDiff, reduceIte, if_pos, if_neg, if_true, if_false, true_and, and_true, Nat.mul_zero, Nat.zero_add, Nat.add_zero, Nat.reduceAdd, Nat.reduceMul, Nat.reduceSub, li_0, li_1, li_2, li_3, li_4, li_5, li_6, li_7, li_8, li_9, li_10, li_11, li_12, li_13, li_14, li_15, li_16, li_20, li_24, li_28, li_31, li_35, li_38, li_40, li_41, li_45, li_48, li_60, li_62, li_63, li_97, li_100, li_104, li_105, li_120, li_124, li_127, li_180, li_239, li_240, li_255, li_256, li_300, li_400, li_960, li_1000000]
  · simp (disch := omega) only [mX8_known_229, mX8_known_239, mX8_known_240, h, vz_1, vz_0, zB_1, bnd_e, ob_s, su_1, su_2, sl_1, sl_2, ck_n, ck_Z0, ck_Z1, c_lt, c_le, c_eq, ng_1, m_ne, m_en, m_lt, m_le, m_gt, m_ge, n_add, n_mul, n_sub, n_sm, n_pm, n_0m, n_cl, Nat.reduceEqDiff, reduceIte, if_pos, if_neg, if_true, if_false, true_and, and_true, Nat.mul_zero, Nat.zero_add, Nat.add_zero, Nat.reduceAdd, Nat.reduceMul, Nat.reduceSub, li_0, li_1, li_2, li_3, li_4, li_5, li_6, li_7, li_8, li_9, li_10, li_11, li_12, li_13, li_14, li_15, li_16, li_20, li_24, li_28, li_31, li_35, li_38, li_40, li_41, li_45, li_48, li_60, li_62, li_63, li_97, li_100, li_104, li_105, li_120, li_124, li_127, li_180, li_239, li_240, li_255, li_256, li_300, li_400, li_960, li_1000000]
theorem x8_st {σ τ t : St} {F : Nat} (hF : F < 240) (hT : ∀ j, j < F → ∀ k, k < 256 → τ.1 20 (256 * j + k) = zB (btL (σ.2 (4 * j + k / 64)) (k % 64)))
    {s l p q : Nat} {x y : Int32} (ha : AX F s l p q x y) {k : Nat} (hk : k < 256) (ht : ∀ i, i < 256 * F → t.1 20 i = τ.1 20 i) (kh) :
    bX8_known_154 kh t (nI s) x y (nI F) (nI k) = kh (su t 20 (upd (t.1 20) (256 * F + k) (zB (VB σ s l p q k)))) (nI s) x y (nI F) (nI (k + 1)) := by
  have e := orix (j := F) (q := k) (by omega) hk
  rcases ha with ⟨rfl, hl, rfl, rfl⟩ | ⟨rfl, rfl, rfl⟩ | ⟨rfl, hp, rfl, rfl⟩ | ⟨h3, h5, hp, hq, rfl, rfl⟩
  · have eb := bit_l hk hl
    have hm : k / 2 ^ l % 2 < 2 := Nat.mod_lt _ (by decide)
    by_cases h1 : k / 2 ^ l % 2 = 1
    · have hv : zB (VB σ 0 l p q k) = nI 1 := by simp [VB, h1, zB]
      simp (disch := omega) only [bX8_known_154, e, eb, h1, hv, mX8_known_240, vz_1, bnd_e, ob_s, su_1, su_2, sl_1, sl_2, ck_n, ck_Z0, ck_Z1, c_lt, c_le, c_eq, ng_1, m_ne, m_en, m_lt, m_le, m_gt, m_ge, n_add, n_mul, n_sub, n_sm, n_pm, n_0m, n_cl, Nat.reduceEqDiff, reduceIte, if_pos, if_neg, if_true, if_false, true_and, and_true, Nat.mul_zero, Nat.zero_add, Nat.add_zero, Nat.reduceAdd, Nat.reduceMul, Nat.reduceSub, li_0, li_1, li_2, li_3, li_4, li_5, li_6, li_7, li_8, li_9, li_10, li_11, li_12, li_13, li_14, li_15, li_16, li_20, li_24, li_28, li_31, li_35, li_38, li_40, li_41, li_45, li_48, li_60, li_62, li_63, li_97, li_100, li_104, li_105, li_120, li_124, li_127, li_180, li_239, li_240, li_255, li_256, li_300, li_400, li_960, li_1000000]
    · have hv : zB (VB σ 0 l p q k) = nI 0 := by simp [VB, h1, zB]
      simp (disch := omega) only [bX8_known_154, e, eb, hv, mX8_known_240, vz_0, bnd_e, ob_s, su_1, su_2, sl_1, sl_2, ck_n, ck_Z0, ck_Z1, c_lt, c_le, c_eq, ng_1, m_ne, m_en, m_lt, m_le, m_gt, m_ge, n_add, n_mul, n_sub, n_sm, n_pm, n_0m, n_cl, Nat.reduceEqDiff, reduceIte, if_pos, if_neg, if_true, if_false, true_and, and_true, Nat.mul_zero, Nat.zero_add, Nat.add_zero, Nat.reduceAdd, Nat.reduceMul, Nat.reduceSub, li_0, li_1, li_2, li_3, li_4, li_5, li_6, li_7, li_8, li_9, li_10, li_11, li_12, li_13, li_14, li_15, li_16, li_20, li_24, li_28, li_31, li_35, li_38, li_40, li_41, li_45, li_48, li_60, li_62, li_63, li_97, li_100, li_104, li_105, li_120, li_124, li_127, li_180, li_239, li_240, li_255, li_256, li_300, li_400, li_960, li_1000000]
  · have hv : zB (VB σ 1 l p q k) = nI 0 := rfl
    simp (disch := omega) only [bX8_known_154, e, hv, mX8_known_239, mX8_known_240, vz_0, bnd_e, ob_s, su_1, su_2, sl_1, sl_2, ck_n, ck_Z0, ck_Z1, c_lt, c_le, c_eq, ng_1, m_ne, m_en, m_lt, m_le, m_gt, m_ge, n_add, n_mul, n_sub, n_sm, n_pm, n_0m, n_cl, Nat.reduceEqDiff, reduceIte, if_pos, if_neg, if_true, if_false, true_and, and_true, Nat.mul_zero, Nat.zero_add, Nat.add_zero, Nat.reduceAdd, Nat.reduceMul, Nat.reduceSub, li_0, li_1, li_2, li_3, li_4, li_5, li_6, li_7, li_8, li_9, li_10, li_11, li_12, li_13, li_14, li_15, li_16, li_20, li_24, li_28, li_31, li_35, li_38, li_40, li_41, li_45, li_48, li_60, li_62, li_63, li_97, li_100, li_104, li_105, li_120, li_124, li_127, li_180, li_239, li_240, li_255, li_256, li_300, li_400, li_960, li_1000000]
  · have hv : zB (VB σ 2 l p q k) = zB (!btL (σ.2 (4 * p + k / 64)) (k % 64)) := rfl
    rw [hv]
    have e1 := x8_it (t := t) (p := p) (k := k) (by omega) hk ((ht _ (by omega)).trans (hT p hp k hk))
    have r := x8_229 (t := t) hF hk (nI p) mI kh _ false _ (told_2 t (btL (σ.2 (4 * p + k / 64)) (k % 64)) false)
    rw [← r]
    simp (disch := omega) only [bX8_known_154, e, e1, mX8_known_228, zB_0, bnd_e, ob_s, su_1, su_2, sl_1, sl_2, ck_n, ck_Z0, ck_Z1, c_lt, c_le, c_eq, ng_1, m_ne, m_en, m_lt, m_le, m_gt, m_ge, n_add, n_mul, n_sub, n_sm, n_pm, n_0m, n_cl, Nat.reduceEqDiff, reduceIte, if_pos, if_neg, if_true, if_false, true_and, and_true, Nat.mul_zero, Nat.zero_add, Nat.add_zero, Nat.reduceAdd, Nat.reduceMul, Nat.reduceSub, li_0, li_1, li_2, li_3, li_4, li_5, li_6, li_7, li_8, li_9, li_10, li_11, li_12, li_13, li_14, li_15, li_16, li_20, li_24, li_28, li_31, li_35, li_38, li_40, li_41, li_45, li_48, li_60, li_62, li_63, li_97, li_100, li_104, li_105, li_120, li_124, li_127, li_180, li_239, li_240, li_255, li_256, li_300, li_400, li_960, li_1000000]
  · have e1 := x8_it (t := t) (p := p) (k := k) (by omega) hk ((ht _ (by omega)).trans (hT p hp k hk))
    have e2 := x8_it (t := t) (p := q) (k := k) (by omega) hk ((ht _ (by omega)).trans (hT q hq k hk))
    have key : ∀ c, mX8_told t (nI s) (zB (btL (σ.2 (4 * p + k / 64)) (k % 64))) (zB (btL (σ.2 (4 * q + k / 64)) (k % 64))) = some (zB c) →
        bX8_known_154 kh t (nI s) (nI p) (nI q) (nI F) (nI k) = kh (su t 20 (upd (t.1 20) (256 * F + k) (zB c))) (nI s) (nI p) (nI q) (nI F) (nI (k + 1)) := by
      intro c hc
      have r := x8_229 (t := t) (s := s) hF hk (nI p) (nI q) kh _ _ _ hc
      rw [← r]
      cases hb : btL (σ.2 (4 * q + k / 64)) (k % 64)
      · rw [hb] at e2
        simp (disch := omega) only [bX8_known_154, e, e1, e2, mX8_known_228, zB_0, bnd_e, ob_s, su_1, su_2, sl_1, sl_2, ck_n, ck_Z0, ck_Z1, c_lt, c_le, c_eq, ng_1, m_ne, m_en, m_lt, m_le, m_gt, m_ge, n_add, n_mul, n_sub, n_sm, n_pm, n_0m, n_cl, Nat.reduceEqDiff, reduceIte, if_pos, if_neg, if_true, if_false, true_and, and_true, Nat.mul_zero, Nat.zero_add, Nat.add_zero, Nat.reduceAdd, Nat.reduceMul, Nat.reduceSub, li_0, li_1, li_2, li_3, li_4, li_5, li_6, li_7, li_8, li_9, li_10, li_11, li_12, li_13, li_14, li_15, li_16, li_20, li_24, li_28, li_31, li_35, li_38, li_40, li_41, li_45, li_48, li_60, li_62, li_63, li_97, li_100, li_104, li_105, li_120, li_124, li_127, li_180, li_239, li_240, li_255, li_256, li_300, li_400, li_960, li_1000000]
      · rw [hb] at e2
        simp (disch := omega) only [bX8_known_154, e, e1, e2, mX8_known_228, zB_1, bnd_e, ob_s, su_1, su_2, sl_1, sl_2, ck_n, ck_Z0, ck_Z1, c_lt, c_le, c_eq, ng_1, m_ne, m_en, m_lt, m_le, m_gt, m_ge, n_add, n_mul, n_sub, n_sm, n_pm, n_0m, n_cl, Nat.reduceEqDiff, reduceIte, if_pos, if_neg, if_true, if_false, true_and, and_true, Nat.mul_zero, Nat.zero_add, Nat.add_zero, Nat.reduceAdd, Nat.reduceMul, Nat.reduceSub, li_0, li_1, li_2, li_3, li_4, li_5, li_6, li_7, li_8, li_9, li_10, li_11, li_12, li_13, li_14, li_15, li_16, li_20, li_24, li_28, li_31, li_35, li_38, li_40, li_41, li_45, li_48, li_60, li_62, li_63, li_97, li_100, li_104, li_105, li_120, li_124, li_127, li_180, li_239, li_240, li_255, li_256, li_300, li_400, li_960, li_1000000]
    have h345 : s = 3 ∨ s = 4 ∨ s = 5 := by omega
    rcases h345 with rfl | rfl | rfl
    · exact key _ (told_3 _ _ _)
    · exact key _ (told_4 _ _ _)
    · exact key _ (told_5 _ _ _)
theorem x8_loop {σ τ : St} {F : Nat} (hF : F < 240) (hT : ∀ j, j < F → ∀ k, k < 256 → τ.1 20 (256 * j + k) = zB (btL (σ.2 (4 * j + k / 64)) (k % 64)))
    {s l p q : Nat} {x y : Int32} (ha : AX F s l p q x y) :
    ∀ d k n (t : St), k + d = 256 → d < n → t.1 5 0 = nI F → (∀ i, i < 256 * F → t.1 20 i = τ.1 20 i) → (∀ r, r < k → t.1 20 (256 * F + r) = zB (VB σ s l p q r)) →
      ∃ t', mX8_known_154 n t (nI s) x y (nI F) (nI k) = some (nI F, t') ∧ t'.1 5 0 = nI (F + 1) ∧ (∀ c, c ≠ 5 → c ≠ 20 → t'.1 c = t.1 c) ∧ (∀ i, i < 256 * F → t'.1 20 i = τ.1 20 i) ∧
        ∀ r, r < 256 → t'.1 20 (256 * F + r) = zB (VB σ s l p q r) := by
  intro d
  induction d with
  | zero =>
    intro k n t hk hn h5 ht hv
    obtain ⟨n, rfl⟩ : ∃ m, n = m + 1 := ⟨n - 1, by omega⟩
    refine ⟨su t 5 (fun _ => nI (F + 1)), ?_, rfl, fun c h1 _ => by rw [su_1, if_neg h1], ht, fun r hr => hv r (by omega)⟩
    simp (disch := omega) only [fx_s, bX8_known_154, mX8_known_247, h5, bnd_e, ob_s, su_1, su_2, sl_1, sl_2, ck_n, ck_Z0, ck_Z1, c_lt, c_le, c_eq, ng_1, m_ne, m_en, m_lt, m_le, m_gt, m_ge, n_add, n_mul, n_sub, n_sm, n_pm, n_0m, n_cl, Nat.reduceEqDiff, reduceIte, if_pos, if_neg, if_true, if_false, true_and, and_true, Nat.mul_zero, Nat.zero_add, Nat.add_zero, Nat.reduceAdd, Nat.reduceMul, Nat.reduceSub, li_0, li_1, li_2, li_3, li_4, li_5, li_6, li_7, li_8, li_9, li_10, li_11, li_12, li_13, li_14, li_15, li_16, li_20, li_24, li_28, li_31, li_35, li_38, li_40, li_41, li_45, li_48, li_60, li_62, li_63, li_97, li_100, li_104, li_105, li_120, li_124, li_127, li_180, li_239, li_240, li_255, li_256, li_300, li_400, li_960, li_1000000]
  | succ d ih =>
    intro k n t hk hn h5 ht hv
    obtain ⟨n, rfl⟩ : ∃ m, n = m + 1 := ⟨n - 1, by omega⟩
    obtain ⟨t', a1, a2, a3, a4, a5⟩ := ih (k + 1) n (su t 20 (upd (t.1 20) (256 * F + k) (zB (VB σ s l p q k)))) (by omega) (by omega) h5
      (fun i hi => by rw [su_1, if_pos rfl, pk_un (by omega)]; exact ht i hi)
      (fun r hr => by
        rw [su_1, if_pos rfl, up_1]
        by_cases e : r = k
        · rw [if_pos (by omega), e]
        · rw [if_neg (by omega)]; exact hv r (by omega))
    refine ⟨t', ?_, a2, fun c h1 h2 => (a3 c h1 h2).trans (by rw [su_1, if_neg h2]), a4, a5⟩
    rw [← a1]
    exact x8_st hF hT ha (by omega) ht _
theorem AX.ag {F s l p q : Nat} {x y : Int32} (h : AX F s l p q x y) : AG F s x y := by
  rcases h with ⟨a, b, c, d⟩ | ⟨a, b, c⟩ | ⟨a, b, c, d⟩ | ⟨a, b, c, d, e, f⟩
  · exact Or.inl ⟨a, l, b, c, d⟩
  · exact Or.inr (Or.inl ⟨a, b, c⟩)
  · exact Or.inr (Or.inr (Or.inl ⟨a, p, b, c, d⟩))
  · exact Or.inr (Or.inr (Or.inr ⟨a, b, p, q, c, d, e, f⟩))
theorem AG.ax {F s : Nat} {x y : Int32} (h : AG F s x y) : ∃ l p q, AX F s l p q x y := by
  rcases h with ⟨a, l, b, c, d⟩ | ⟨a, b, c⟩ | ⟨a, p, b, c, d⟩ | ⟨a, b, p, q, c, d, e, f⟩
  · exact ⟨l, 0, 0, Or.inl ⟨a, b, c, d⟩⟩
  · exact ⟨0, 0, 0, Or.inr (Or.inl ⟨a, b, c⟩)⟩
  · exact ⟨0, p, 0, Or.inr (Or.inr (Or.inl ⟨a, b, c, d⟩))⟩
  · exact ⟨0, p, q, Or.inr (Or.inr (Or.inr ⟨a, b, c, d, e, f⟩))⟩
def kM : List Nat := [5, 15, 16, 17, 18, 19, 20]
/-- the other side's new formula -/
theorem x8_new {σ τ : St} {F : Nat} (hF : F < 240) (h0 : τ.1 5 0 = nI F) (hT : ∀ j, j < F → ∀ k, k < 256 → τ.1 20 (256 * j + k) = zB (btL (σ.2 (4 * j + k / 64)) (k % 64)))
    {s l p q : Nat} {x y : Int32} (ha : AX F s l p q x y) (hf : mX8_find τ (nI s) x y = some mI) :
    ∃ τ', mX8_known τ (nI s) x y = some (nI F, τ') ∧ τ'.1 5 0 = nI (F + 1) ∧ KE kM τ τ' ∧
      τ'.1 15 = upd (τ.1 15) F (nI s) ∧ τ'.1 16 = upd (τ.1 16) F x ∧ τ'.1 17 = upd (τ.1 17) F y ∧
      τ'.1 18 = upd (τ.1 18) F (if s = 0 then (1 : Int32) <<< (x &&& 31) else if s = 1 then nI 0 else if s = 2 then τ.1 18 p ||| nI 0 else τ.1 18 p ||| τ.1 18 q) ∧
      τ'.1 19 = upd (τ.1 19) F (if s < 2 then nI 1 else if s = 2 then cutI ((nI 1 + τ.1 19 p) + nI 0) else cutI ((nI 1 + τ.1 19 p) + τ.1 19 q)) ∧
      (∀ i, i < 256 * F → τ'.1 20 i = τ.1 20 i) ∧ ∀ r, r < 256 → τ'.1 20 (256 * F + r) = zB (VB σ s l p q r) := by
  obtain ⟨t3, ht3⟩ : ∃ v, v = su (su (su τ 15 (upd (τ.1 15) F (nI s))) 16 (upd (τ.1 16) F x)) 17 (upd (τ.1 17) F y) := ⟨_, rfl⟩
  obtain ⟨LET, hLET⟩ : ∃ v, v = (if s = 0 then (1 : Int32) <<< (x &&& 31) else if s = 1 then nI 0 else if s = 2 then τ.1 18 p ||| nI 0 else τ.1 18 p ||| τ.1 18 q) := ⟨_, rfl⟩
  obtain ⟨SIZ, hSIZ⟩ : ∃ v, v = (if s < 2 then nI 1 else if s = 2 then cutI ((nI 1 + τ.1 19 p) + nI 0) else cutI ((nI 1 + τ.1 19 p) + τ.1 19 q)) := ⟨_, rfl⟩
  rw [← hLET, ← hSIZ]
  have h18 : t3.1 18 = τ.1 18 := by rw [ht3]; rfl
  have h19 : t3.1 19 = τ.1 19 := by rw [ht3]; rfl
  obtain ⟨t', a1, a2, a3, a4, a5⟩ := x8_loop hF hT ha 256 0 NF (su (su t3 18 (upd (t3.1 18) F LET)) 19 (upd (t3.1 19) F SIZ)) (by omega) (by decide) (by rw [ht3]; exact h0) (fun i hi => by rw [ht3]; rfl) (fun r hr => absurd hr (by omega))
  refine ⟨t', ?_, a2, fun c hc => ?_, ?_, ?_, ?_, ?_, ?_, a4, a5⟩
  · rw [← a1]
    have e30 : mX8_known τ (nI s) x y = mX8_known_105 t3 (nI s) x y (nI F) LET (nI F) := by
      rcases ha with ⟨rfl, hl, rfl, rfl⟩ | ⟨rfl, rfl, rfl⟩ | ⟨rfl, hp, rfl, rfl⟩ | ⟨h3, h5, hp, hq, rfl, rfl⟩
      · rw [hLET, if_pos rfl, ht3]
        simp (disch := omega) only [mX8_known, hf, h0, bnd_e, ob_s, su_1, su_2, sl_1, sl_2, ck_n, ck_Z0, ck_Z1, c_lt, c_le, c_eq, ng_1, m_ne, m_en, m_lt, m_le, m_gt, m_ge, n_add, n_mul, n_sub, n_sm, n_pm, n_0m, n_cl, Nat.reduceEqDiff, reduceIte, if_pos, if_neg, if_true, if_false, true_and, and_true, Nat.mul_zero, Nat.zero_add, Nat.add_zero, Nat.reduceAdd, Nat.reduceMul, Nat.reduceSub, li_0, li_1, li_2, li_3, li_4, li_5, li_6, li_7, li_8, li_9, li_10, li_11, li_12, li_13, li_14, li_15, li_16, li_20, li_24, li_28, li_31, li_35, li_38, li_40, li_41, li_45, li_48, li_60, li_62, li_63, li_97, li_100, li_104, li_105, li_120, li_124, li_127, li_180, li_239, li_240, li_255, li_256, li_300, li_400, li_960, li_1000000]
      · rw [hLET, if_neg (by omega), if_pos rfl, ht3]
        simp (disch := omega) only [mX8_known, hf, h0, bnd_e, ob_s, su_1, su_2, sl_1, sl_2, ck_n, ck_Z0, ck_Z1, c_lt, c_le, c_eq, ng_1, m_ne, m_en, m_lt, m_le, m_gt, m_ge, n_add, n_mul, n_sub, n_sm, n_pm, n_0m, n_cl, Nat.reduceEqDiff, reduceIte, if_pos, if_neg, if_true, if_false, true_and, and_true, Nat.mul_zero, Nat.zero_add, Nat.add_zero, Nat.reduceAdd, Nat.reduceMul, Nat.reduceSub, li_0, li_1, li_2, li_3, li_4, li_5, li_6, li_7, li_8, li_9, li_10, li_11, li_12, li_13, li_14, li_15, li_16, li_20, li_24, li_28, li_31, li_35, li_38, li_40, li_41, li_45, li_48, li_60, li_62, li_63, li_97, li_100, li_104, li_105, li_120, li_124, li_127, li_180, li_239, li_240, li_255, li_256, li_300, li_400, li_960, li_1000000]
      · rw [hLET, if_neg (by omega), if_neg (by omega), if_pos rfl, ht3]
        simp (disch := omega) only [mX8_known, mX8_known_104, hf, h0, bnd_e, ob_s, su_1, su_2, sl_1, sl_2, ck_n, ck_Z0, ck_Z1, c_lt, c_le, c_eq, ng_1, m_ne, m_en, m_lt, m_le, m_gt, m_ge, n_add, n_mul, n_sub, n_sm, n_pm, n_0m, n_cl, Nat.reduceEqDiff, reduceIte, if_pos, if_neg, if_true, if_false, true_and, and_true, Nat.mul_zero, Nat.zero_add, Nat.add_zero, Nat.reduceAdd, Nat.reduceMul, Nat.reduceSub, li_0, li_1, li_2, li_3, li_4, li_5, li_6, li_7, li_8, li_9, li_10, li_11, li_12, li_13, li_14, li_15, li_16, li_20, li_24, li_28, li_31, li_35, li_38, li_40, li_41, li_45, li_48, li_60, li_62, li_63, li_97, li_100, li_104, li_105, li_120, li_124, li_127, li_180, li_239, li_240, li_255, li_256, li_300, li_400, li_960, li_1000000]
      · rw [hLET, if_neg (by omega), if_neg (by omega), if_neg (by omega), ht3]
        simp (disch := omega) only [mX8_known, mX8_known_104, hf, h0, bnd_e, ob_s, su_1, su_2, sl_1, sl_2, ck_n, ck_Z0, ck_Z1, c_lt, c_le, c_eq, ng_1, m_ne, m_en, m_lt, m_le, m_gt, m_ge, n_add, n_mul, n_sub, n_sm, n_pm, n_0m, n_cl, Nat.reduceEqDiff, reduceIte, if_pos, if_neg, if_true, if_false, true_and, and_true, Nat.mul_zero, Nat.zero_add, Nat.add_zero, Nat.reduceAdd, Nat.reduceMul, Nat.reduceSub, li_0, li_1, li_2, li_3, li_4, li_5, li_6, li_7, li_8, li_9, li_10, li_11, li_12, li_13, li_14, li_15, li_16, li_20, li_24, li_28, li_31, li_35, li_38, li_40, li_41, li_45, li_48, li_60, li_62, li_63, li_97, li_100, li_104, li_105, li_120, li_124, li_127, li_180, li_239, li_240, li_255, li_256, li_300, li_400, li_960, li_1000000]
    rw [e30]
    rcases ha with ⟨rfl, hl, rfl, rfl⟩ | ⟨rfl, rfl, rfl⟩ | ⟨rfl, hp, rfl, rfl⟩ | ⟨h3, h5, hp, hq, rfl, rfl⟩
    · rw [hSIZ, if_pos (by omega)]
      simp (disch := omega) only [mX8_known_105, mX8_known_150, bnd_e, ob_s, su_1, su_2, sl_1, sl_2, ck_n, ck_Z0, ck_Z1, c_lt, c_le, c_eq, ng_1, m_ne, m_en, m_lt, m_le, m_gt, m_ge, n_add, n_mul, n_sub, n_sm, n_pm, n_0m, n_cl, Nat.reduceEqDiff, reduceIte, if_pos, if_neg, if_true, if_false, true_and, and_true, Nat.mul_zero, Nat.zero_add, Nat.add_zero, Nat.reduceAdd, Nat.reduceMul, Nat.reduceSub, li_0, li_1, li_2, li_3, li_4, li_5, li_6, li_7, li_8, li_9, li_10, li_11, li_12, li_13, li_14, li_15, li_16, li_20, li_24, li_28, li_31, li_35, li_38, li_40, li_41, li_45, li_48, li_60, li_62, li_63, li_97, li_100, li_104, li_105, li_120, li_124, li_127, li_180, li_239, li_240, li_255, li_256, li_300, li_400, li_960, li_1000000]
    · rw [hSIZ, if_pos (by omega)]
      simp (disch := omega) only [mX8_known_105, mX8_known_150, bnd_e, ob_s, su_1, su_2, sl_1, sl_2, ck_n, ck_Z0, ck_Z1, c_lt, c_le, c_eq, ng_1, m_ne, m_en, m_lt, m_le, m_gt, m_ge, n_add, n_mul, n_sub, n_sm, n_pm, n_0m, n_cl, Nat.reduceEqDiff, reduceIte, if_pos, if_neg, if_true, if_false, true_and, and_true, Nat.mul_zero, Nat.zero_add, Nat.add_zero, Nat.reduceAdd, Nat.reduceMul, Nat.reduceSub, li_0, li_1, li_2, li_3, li_4, li_5, li_6, li_7, li_8, li_9, li_10, li_11, li_12, li_13, li_14, li_15, li_16, li_20, li_24, li_28, li_31, li_35, li_38, li_40, li_41, li_45, li_48, li_60, li_62, li_63, li_97, li_100, li_104, li_105, li_120, li_124, li_127, li_180, li_239, li_240, li_255, li_256, li_300, li_400, li_960, li_1000000]
    · rw [hSIZ, if_neg (by omega), if_pos rfl, ← h19]
      simp (disch := omega) only [mX8_known_105, mX8_known_150, mX8_known_146, cutI, bnd_e, ob_s, su_1, su_2, sl_1, sl_2, ck_n, ck_Z0, ck_Z1, c_lt, c_le, c_eq, ng_1, m_ne, m_en, m_lt, m_le, m_gt, m_ge, n_add, n_mul, n_sub, n_sm, n_pm, n_0m, n_cl, Nat.reduceEqDiff, reduceIte, if_pos, if_neg, if_true, if_false, true_and, and_true, Nat.mul_zero, Nat.zero_add, Nat.add_zero, Nat.reduceAdd, Nat.reduceMul, Nat.reduceSub, li_0, li_1, li_2, li_3, li_4, li_5, li_6, li_7, li_8, li_9, li_10, li_11, li_12, li_13, li_14, li_15, li_16, li_20, li_24, li_28, li_31, li_35, li_38, li_40, li_41, li_45, li_48, li_60, li_62, li_63, li_97, li_100, li_104, li_105, li_120, li_124, li_127, li_180, li_239, li_240, li_255, li_256, li_300, li_400, li_960, li_1000000]
    · rw [hSIZ, if_neg (by omega), if_neg (by omega), ← h19]
      simp (disch := omega) only [mX8_known_105, mX8_known_150, mX8_known_146, cutI, bnd_e, ob_s, su_1, su_2, sl_1, sl_2, ck_n, ck_Z0, ck_Z1, c_lt, c_le, c_eq, ng_1, m_ne, m_en, m_lt, m_le, m_gt, m_ge, n_add, n_mul, n_sub, n_sm, n_pm, n_0m, n_cl, Nat.reduceEqDiff, reduceIte, if_pos, if_neg, if_true, if_false, true_and, and_true, Nat.mul_zero, Nat.zero_add, Nat.add_zero, Nat.reduceAdd, Nat.reduceMul, Nat.reduceSub, li_0, li_1, li_2, li_3, li_4, li_5, li_6, li_7, li_8, li_9, li_10, li_11, li_12, li_13, li_14, li_15, li_16, li_20, li_24, li_28, li_31, li_35, li_38, li_40, li_41, li_45, li_48, li_60, li_62, li_63, li_97, li_100, li_104, li_105, li_120, li_124, li_127, li_180, li_239, li_240, li_255, li_256, li_300, li_400, li_960, li_1000000]
  · have hc' : c ≠ 5 ∧ c ≠ 15 ∧ c ≠ 16 ∧ c ≠ 17 ∧ c ≠ 18 ∧ c ≠ 19 ∧ c ≠ 20 := by
      refine ⟨?_, ?_, ?_, ?_, ?_, ?_, ?_⟩ <;> (intro e; subst e; exact hc (by decide))
    obtain ⟨b1, b2, b3, b4, b5, b6, b7⟩ := hc'
    rw [a3 c b1 b7, su_1, if_neg b6, su_1, if_neg b5, ht3, su_1, if_neg b4, su_1, if_neg b3, su_1, if_neg b2]
  · rw [a3 15 (by omega) (by omega), ht3]; rfl
  · rw [a3 16 (by omega) (by omega), ht3]; rfl
  · rw [a3 17 (by omega) (by omega), ht3]; rfl
  · rw [a3 18 (by omega) (by omega), ← h18]; rfl
  · rw [a3 19 (by omega) (by omega), ← h19]; rfl
