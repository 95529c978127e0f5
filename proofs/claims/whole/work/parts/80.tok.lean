theorem li_32 : (32 : Int32) = nI 32 := rfl
/-- both tapes, at the same place -/
def TS (N A : Nat) (s t : St) : Prop := (A ≤ N ∧ N ≤ 400 ∧ s.1 1 0 = nI N ∧ t.1 1 0 = nI N ∧ s.1 2 0 = nI A ∧ t.1 3 0 = nI A) ∧ BY s t
theorem TS.k {N A : Nat} {s t s' t' : St} {l m : List Nat} (h : TS N A s t) (ks : KE l s s') (kt : KE m t t') (hl : ∀ c, c ∈ [1, 2, 18] → c ∉ l) (hm : ∀ c, c ∈ [1, 3, 13] → c ∉ m) : TS N A s' t' := by
  obtain ⟨⟨a, b, c, d, e, f⟩, g⟩ := h
  refine ⟨⟨a, b, by rw [ks 1 (hl _ (by decide))]; exact c, by rw [kt 1 (hm _ (by decide))]; exact d, by rw [ks 2 (hl _ (by decide))]; exact e, by rw [kt 3 (hm _ (by decide))]; exact f⟩, fun k => ?_⟩
  rw [ks 18 (hl _ (by decide)), kt 13 (hm _ (by decide))]; exact g k
/-- what stands there; nothing is to be skipped there -/
def chr (N A : Nat) (t : St) : Int32 := if A = N then mI else t.1 13 A
def NBl (N A : Nat) (t : St) : Prop := A = N ∨ t.1 13 A ≠ nI 32
theorem by_v : ∀ b, b < 256 → ((nI b).toInt8.toInt32 &&& nI 255 = nI b) ∧ ((nI b).toInt8.toInt32 = nI 32 ↔ b = 32) := by decide +kernel
theorem next_at {N A n n' : Nat} {s t : St} (h : TS N A s t) (hb : NBl N A t) : mX5_next_0 (n + 1) s = some (chr N A t, s) ∧ mX8_here_0 (n' + 1) t = some (chr N A t, t) := by
  obtain ⟨⟨hA, hN, s1, t1, s2, t3⟩, hB⟩ := h
  by_cases e : A = N
  · subst e
    have : chr A A t = mI := if_pos rfl
    rw [this]
    exact ⟨by simp (implicitDefEqProofs := false) (disch := omega) only [fx_s, bX5_next_0, mX5_next_38, s1, s2, ↓bnd_e, ↓ob_s, ob_s, su_1, su_2, sl_1, sl_2, ↓ck_n, ck_n, ck_Z0, ck_Z1, c_lt, c_le, c_eq, ng_1, m_ne, m_en, m_lt, m_le, m_gt, m_ge, n_add, n_mul, n_sub, n_sm, n_pm, n_0m, n_cl, Nat.reduceEqDiff, ↓reduceIte, nle_T, nle_F, nlt_T, nlt_F, neq_F, neq_T, if_true, if_false, true_and, and_true, Nat.mul_zero, Nat.zero_add, Nat.add_zero, Nat.reduceAdd, Nat.reduceMul, Nat.reduceSub, li_0, li_1, li_2, li_3, li_4, li_5, li_6, li_7, li_8, li_9, li_10, li_11, li_12, li_13, li_14, li_15, li_16, li_20, li_24, li_28, li_31, li_35, li_38, li_40, li_41, li_45, li_48, li_60, li_62, li_63, li_97, li_100, li_104, li_105, li_120, li_124, li_127, li_180, li_239, li_240, li_255, li_256, li_300, li_400, li_960, li_1000000], by simp (implicitDefEqProofs := false) (disch := omega) only [fx_s, bX8_here_0, mX8_here_38, t1, t3, ↓bnd_e, ↓ob_s, ob_s, su_1, su_2, sl_1, sl_2, ↓ck_n, ck_n, ck_Z0, ck_Z1, c_lt, c_le, c_eq, ng_1, m_ne, m_en, m_lt, m_le, m_gt, m_ge, n_add, n_mul, n_sub, n_sm, n_pm, n_0m, n_cl, Nat.reduceEqDiff, ↓reduceIte, nle_T, nle_F, nlt_T, nlt_F, neq_F, neq_T, if_true, if_false, true_and, and_true, Nat.mul_zero, Nat.zero_add, Nat.add_zero, Nat.reduceAdd, Nat.reduceMul, Nat.reduceSub, li_0, li_1, li_2, li_3, li_4, li_5, li_6, li_7, li_8, li_9, li_10, li_11, li_12, li_13, li_14, li_15, li_16, li_20, li_24, li_28, li_31, li_35, li_38, li_40, li_41, li_45, li_48, li_60, li_62, li_63, li_97, li_100, li_104, li_105, li_120, li_124, li_127, li_180, li_239, li_240, li_255, li_256, li_300, li_400, li_960, li_1000000]⟩
  · have hA' : A < N := by omega
    obtain ⟨b, b1, b2, b3⟩ := hB A
    have nb : b ≠ 32 := fun e2 => by
      rcases hb with x | x
      · exact e x
      · exact x (by rw [b2, e2])
    have : chr N A t = nI b := by unfold chr; rw [if_neg e, b2]
    rw [this]
    obtain ⟨v1, v2⟩ := by_v b b1
    have n32 : ¬ s.1 18 A = nI 32 := by rw [b3]; exact fun x => nb (v2.mp x)
    have n33 : ¬ t.1 13 A = nI 32 := by rw [b2, c_eq (by omega) (by omega)]; exact nb
    have x255 : s.1 18 A &&& nI 255 = nI b := by rw [b3]; exact v1
    exact ⟨by simp (implicitDefEqProofs := false) (disch := omega) only [fx_s, li_32, bX5_next_0, mX5_next_38, s1, s2, n32, x255, ↓bnd_e, ↓ob_s, ob_s, su_1, su_2, sl_1, sl_2, ↓ck_n, ck_n, ck_Z0, ck_Z1, c_lt, c_le, c_eq, ng_1, m_ne, m_en, m_lt, m_le, m_gt, m_ge, n_add, n_mul, n_sub, n_sm, n_pm, n_0m, n_cl, Nat.reduceEqDiff, ↓reduceIte, nle_T, nle_F, nlt_T, nlt_F, neq_F, neq_T, if_true, if_false, true_and, and_true, Nat.mul_zero, Nat.zero_add, Nat.add_zero, Nat.reduceAdd, Nat.reduceMul, Nat.reduceSub, li_0, li_1, li_2, li_3, li_4, li_5, li_6, li_7, li_8, li_9, li_10, li_11, li_12, li_13, li_14, li_15, li_16, li_20, li_24, li_28, li_31, li_35, li_38, li_40, li_41, li_45, li_48, li_60, li_62, li_63, li_97, li_100, li_104, li_105, li_120, li_124, li_127, li_180, li_239, li_240, li_255, li_256, li_300, li_400, li_960, li_1000000], by simp (implicitDefEqProofs := false) (disch := omega) only [fx_s, li_32, bX8_here_0, mX8_here_38, t1, t3, n33, b2, ↓bnd_e, ↓ob_s, ob_s, su_1, su_2, sl_1, sl_2, ↓ck_n, ck_n, ck_Z0, ck_Z1, c_lt, c_le, c_eq, ng_1, m_ne, m_en, m_lt, m_le, m_gt, m_ge, n_add, n_mul, n_sub, n_sm, n_pm, n_0m, n_cl, Nat.reduceEqDiff, ↓reduceIte, nle_T, nle_F, nlt_T, nlt_F, neq_F, neq_T, if_true, if_false, true_and, and_true, Nat.mul_zero, Nat.zero_add, Nat.add_zero, Nat.reduceAdd, Nat.reduceMul, Nat.reduceSub, li_0, li_1, li_2, li_3, li_4, li_5, li_6, li_7, li_8, li_9, li_10, li_11, li_12, li_13, li_14, li_15, li_16, li_20, li_24, li_28, li_31, li_35, li_38, li_40, li_41, li_45, li_48, li_60, li_62, li_63, li_97, li_100, li_104, li_105, li_120, li_124, li_127, li_180, li_239, li_240, li_255, li_256, li_300, li_400, li_960, li_1000000]⟩
theorem next_l {N : Nat} : ∀ d A n n' (s t : St), A + d = N → d < n → d < n' → TS N A s t → ∃ A' s' t', mX5_next_0 n s = some (chr N A' t', s') ∧ mX8_here_0 n' t = some (chr N A' t', t') ∧ TS N A' s' t' ∧ KE [2] s s' ∧ KE [3] t t' ∧ s'.2 = s.2 ∧ A ≤ A' ∧ NBl N A' t' := by
  intro d
  induction d with
  | zero =>
    intro A n n' s t hA hn hn' h
    obtain ⟨n, rfl⟩ : ∃ m, n = m + 1 := ⟨n - 1, by omega⟩
    obtain ⟨n', rfl⟩ : ∃ m, n' = m + 1 := ⟨n' - 1, by omega⟩
    have nb : NBl N A t := Or.inl (by omega)
    obtain ⟨e1, e2⟩ := next_at (n := n) (n' := n') h nb
    exact ⟨A, s, t, e1, e2, h, KE.rf, KE.rf, rfl, Nat.le_refl _, nb⟩
  | succ d ih =>
    intro A n n' s t hA hn hn' h
    obtain ⟨n, rfl⟩ : ∃ m, n = m + 1 := ⟨n - 1, by omega⟩
    obtain ⟨n', rfl⟩ : ∃ m, n' = m + 1 := ⟨n' - 1, by omega⟩
    by_cases e : t.1 13 A = nI 32
    · have h' := h
      obtain ⟨⟨hA', hN, s1, t1, s2, t3⟩, hB⟩ := h
      obtain ⟨b, b1, b2, b3⟩ := hB A
      have b32 : b = 32 := by rw [b2, c_eq (by omega) (by omega)] at e; exact e
      have e18 : s.1 18 A = nI 32 := by rw [b3]; exact (by_v b b1).2.mpr b32
      have T' : TS N (A + 1) (su s 2 (fun _ => nI (A + 1))) (su t 3 (fun _ => nI (A + 1))) := ⟨⟨by omega, hN, s1, t1, rfl, rfl⟩, hB⟩
      obtain ⟨A', s', t', x1, x2, x3, x4, x5, x6, x7, x8⟩ := ih (A + 1) n n' _ _ (by omega) (by omega) (by omega) T'
      refine ⟨A', s', t', ?_, ?_, x3, (KE.rf.s (by decide)).tr x4, (KE.rf.s (by decide)).tr x5, x6, by omega, x8⟩
      · rw [← x1]
        simp (implicitDefEqProofs := false) (disch := omega) only [fx_s, li_32, bX5_next_0, s1, s2, e18, ↓bnd_e, ↓ob_s, ob_s, su_1, su_2, sl_1, sl_2, ↓ck_n, ck_n, ck_Z0, ck_Z1, c_lt, c_le, c_eq, ng_1, m_ne, m_en, m_lt, m_le, m_gt, m_ge, n_add, n_mul, n_sub, n_sm, n_pm, n_0m, n_cl, Nat.reduceEqDiff, ↓reduceIte, nle_T, nle_F, nlt_T, nlt_F, neq_F, neq_T, if_true, if_false, true_and, and_true, Nat.mul_zero, Nat.zero_add, Nat.add_zero, Nat.reduceAdd, Nat.reduceMul, Nat.reduceSub, li_0, li_1, li_2, li_3, li_4, li_5, li_6, li_7, li_8, li_9, li_10, li_11, li_12, li_13, li_14, li_15, li_16, li_20, li_24, li_28, li_31, li_35, li_38, li_40, li_41, li_45, li_48, li_60, li_62, li_63, li_97, li_100, li_104, li_105, li_120, li_124, li_127, li_180, li_239, li_240, li_255, li_256, li_300, li_400, li_960, li_1000000]
      · rw [← x2]
        simp (implicitDefEqProofs := false) (disch := omega) only [fx_s, li_32, bX8_here_0, t1, t3, e, ↓bnd_e, ↓ob_s, ob_s, su_1, su_2, sl_1, sl_2, ↓ck_n, ck_n, ck_Z0, ck_Z1, c_lt, c_le, c_eq, ng_1, m_ne, m_en, m_lt, m_le, m_gt, m_ge, n_add, n_mul, n_sub, n_sm, n_pm, n_0m, n_cl, Nat.reduceEqDiff, ↓reduceIte, nle_T, nle_F, nlt_T, nlt_F, neq_F, neq_T, if_true, if_false, true_and, and_true, Nat.mul_zero, Nat.zero_add, Nat.add_zero, Nat.reduceAdd, Nat.reduceMul, Nat.reduceSub, li_0, li_1, li_2, li_3, li_4, li_5, li_6, li_7, li_8, li_9, li_10, li_11, li_12, li_13, li_14, li_15, li_16, li_20, li_24, li_28, li_31, li_35, li_38, li_40, li_41, li_45, li_48, li_60, li_62, li_63, li_97, li_100, li_104, li_105, li_120, li_124, li_127, li_180, li_239, li_240, li_255, li_256, li_300, li_400, li_960, li_1000000]
    · have nb : NBl N A t := Or.inr e
      obtain ⟨e1, e2⟩ := next_at (n := n) (n' := n') h nb
      exact ⟨A, s, t, e1, e2, h, KE.rf, KE.rf, rfl, Nat.le_refl _, nb⟩
theorem next_rel {N A : Nat} {s t : St} (h : TS N A s t) : ∃ A' s' t', mX5_next s = some (chr N A' t', s') ∧ mX8_here t = some (chr N A' t', t') ∧ TS N A' s' t' ∧ KE [2] s s' ∧ KE [3] t t' ∧ s'.2 = s.2 ∧ A ≤ A' ∧ NBl N A' t' ∧ mX5_next s' = some (chr N A' t', s') := by
  have hN := h.1.2.1
  have hA := h.1.1
  obtain ⟨A', s', t', x1, x2, x3, x4, x5, x6, x7, x8⟩ := next_l (N := N) (N - A) A NF NF s t (by omega) (by show N - A < 1000; omega) (by show N - A < 1000; omega) h
  obtain ⟨nf, hnf⟩ := NF_5
  have i1 := (next_at (n := nf + 1 + 1 + 1 + 1 + 1) (n' := 0) x3 x8).1
  refine ⟨A', s', t', x1, x2, x3, x4, x5, x6, x7, x8, ?_⟩
  unfold mX5_next
  rw [hnf]; exact i1
/-- a byte is taken, or isn't, on both sides -/
theorem takes_rel {N A : Nat} {s t : St} (h : TS N A s t) (h3 : s.1 3 0 = mI) {c : Nat} (hc : c < 256) : ∃ (b : Bool) (A' : Nat) (s' t' : St), mX5_takes s (nI c) = some (zB b, s') ∧ mX8_takes t (nI c) = some (zB b, t') ∧ TS N A' s' t' ∧ KE [2] s s' ∧ KE [3] t t' ∧ s'.2 = s.2 ∧ A ≤ A' ∧ (b = true → A < A') := by
  obtain ⟨A', s', t', x1, x2, x3, x4, x5, x6, x7, x8, _⟩ := next_rel h
  have lm : ¬ (0 : Int32) ≤ mI := by decide
  by_cases e : chr N A' t' = nI c
  · have hA' : A' < N := by
      have := x3.1.1
      by_cases e2 : A' = N
      · unfold chr at e
        rw [if_pos e2, m_en (by omega)] at e; exact e.elim
      · omega
    obtain ⟨⟨y1, y2, y3, y4, y5, y6⟩, y7⟩ := x3
    refine ⟨true, A' + 1, su s' 2 (fun _ => nI (A' + 1)), su t' 3 (fun _ => nI (A' + 1)), ?_, ?_, ⟨⟨by omega, y2, y3, y4, rfl, rfl⟩, y7⟩, x4.s (by decide), x5.s (by decide), x6, by omega, fun _ => by omega⟩
    · rw [e] at x1
      unfold mX5_takes
      rw [h3, if_neg lm, x1, ob_s]
      dsimp only
      rw [if_pos rfl, bnd_e, y5, nI_1]; rfl
    · rw [e] at x2
      unfold mX8_takes
      rw [x2, ob_s]
      dsimp only
      rw [if_pos rfl, bnd_e, y6, nI_1]; rfl
  · refine ⟨false, A', s', t', ?_, ?_, x3, x4, x5, x6, x7, fun h => absurd h (by decide)⟩
    · unfold mX5_takes
      rw [h3, if_neg lm, x1, ob_s]
      dsimp only
      rw [if_neg e]; rfl
    · unfold mX8_takes
      rw [x2, ob_s]
      dsimp only
      rw [if_neg e]; rfl
theorem takes_err {s : St} {E : Nat} (hE : E ≤ 400) (h3 : s.1 3 0 = nI E) (c : Int32) : mX5_takes s c = some (0, s) := by
  unfold mX5_takes
  rw [h3, if_pos (nI_pos' (by omega))]
theorem fail_0 {s : St} {A : Nat} (h3 : s.1 3 0 = mI) (h2 : s.1 2 0 = nI A) : mX5_fail s = some (mI, su s 3 (fun _ => nI A)) := by
  unfold mX5_fail
  rw [h3, if_neg (by decide), bnd_e, h2]; rfl
theorem fail_err {s : St} {E : Nat} (hE : E ≤ 400) (h3 : s.1 3 0 = nI E) : mX5_fail s = some (mI, s) := by
  unfold mX5_fail
  rw [h3, if_pos (nI_pos' (by omega))]; rfl
/-- the class's formulas grow -/
def kR : List Nat := 2 :: 3 :: kF
def GR (s s' : St) : Prop := ∃ F F', s.1 0 0 = nI F ∧ s'.1 0 0 = nI F' ∧ F ≤ F' ∧ F' ≤ 240 ∧ PF F s s' ∧ KE kR s s'
theorem GR.tr {s s' s'' : St} (h : GR s s') (h' : GR s' s'') : GR s s'' := by
  obtain ⟨F, F1, a1, a2, a3, a4, a5, a6⟩ := h
  obtain ⟨F1', F2, b1, b2, b3, b4, b5, b6⟩ := h'
  rw [a2, c_eq (by omega) (by omega)] at b1
  subst b1
  exact ⟨F, F2, a1, b2, by omega, b4, a5.tr (b5.le a3), a6.tr b6⟩
theorem GR.k {s s' : St} {F : Nat} {l : List Nat} (hF : F ≤ 240) (h0 : s.1 0 0 = nI F) (h : KE l s s') (hl : ∀ c, c ∈ l → c ∈ [2, 3]) (h2 : s'.2 = s.2) : GR s s' := by
  have h' : KE [2, 3] s s' := h.wk hl
  refine ⟨F, F, h0, by rw [h' 0 (by decide)]; exact h0, Nat.le_refl _, hF, ⟨fun c j a b _ => ?_, fun i _ => by rw [h2]⟩, h'.wk (by decide)⟩
  have : c = 12 ∨ c = 13 ∨ c = 14 ∨ c = 15 ∨ c = 16 ∨ c = 17 := by omega
  rw [h' c (by rcases this with rfl | rfl | rfl | rfl | rfl | rfl <;> decide)]
/-- the numbers that the class asks for, one after the other; between them it moves on the tape alone -/
def Chn (g : Nat → Nat → Int32) (nums : Nat → Int32) : Nat → Nat → St → St → Prop
  | 0, _, s, s' => KE [2, 3] s s' ∧ s'.2 = s.2
  | n + 1, k, s, s' => ∃ (s1 s2 : St) (so : Nat) (x y : Int32), (KE [2, 3] s s1 ∧ s1.2 = s.2) ∧ so ≤ 5 ∧ g 35 k = nI so ∧ AG k so (g 36 k) (g 37 k) ∧ (so = 0 → x = g 36 k) ∧ (2 ≤ so → x = nums (g 36 k).toNatClampNeg) ∧
      (3 ≤ so → y = nums (g 37 k).toNatClampNeg) ∧ mX1_number s1 (nI so) x y = some (nums k, s2) ∧ Chn g nums n (k + 1) s2 s'
theorem Chn.pre {g : Nat → Nat → Int32} {nums : Nat → Int32} {n k : Nat} {s s0 s' : St} (hk : KE [2, 3] s s0) (h2 : s0.2 = s.2) (h : Chn g nums n k s0 s') : Chn g nums n k s s' := by
  cases n with
  | zero => exact ⟨hk.tr h.1, h.2.trans h2⟩
  | succ n =>
    obtain ⟨s1, s2, so, x, y, ⟨a1, a2⟩, b⟩ := h
    exact ⟨s1, s2, so, x, y, ⟨hk.tr a1, a2.trans h2⟩, b⟩
theorem Chn.app {g : Nat → Nat → Int32} {nums : Nat → Int32} {m : Nat} {s1 s2 : St} : ∀ n k (s : St), Chn g nums n k s s1 → Chn g nums m (k + n) s1 s2 → Chn g nums (n + m) k s s2 := by
  intro n
  induction n with
  | zero =>
    intro k s h h'
    rw [Nat.zero_add]
    exact h'.pre h.1 h.2
  | succ n ih =>
    intro k s h h'
    obtain ⟨u1, u2, so, x, y, a, b, c, d, e, f, i, j, z⟩ := h
    have e1 : n + 1 + m = (n + m) + 1 := by omega
    have e2 : k + (n + 1) = (k + 1) + n := by omega
    rw [e1]
    rw [e2] at h'
    exact ⟨u1, u2, so, x, y, a, b, c, d, e, f, i, j, ih (k + 1) u2 z h'⟩
theorem Chn.c {g g' : Nat → Nat → Int32} {nums nums' : Nat → Int32} {s' : St} : ∀ n k (s : St), Chn g nums n k s s' → k + n < 2147483648 → (∀ j, j < k + n → g' 35 j = g 35 j ∧ g' 36 j = g 36 j ∧ g' 37 j = g 37 j ∧ nums' j = nums j) → Chn g' nums' n k s s' := by
  intro n
  induction n with
  | zero => intro k s h _ _; exact h
  | succ n ih =>
    intro k s h hlt he
    obtain ⟨u1, u2, so, x, y, a, b, c, d, e, f, i, j, z⟩ := h
    obtain ⟨k35, k36, k37, kn⟩ := he k (by omega)
    refine ⟨u1, u2, so, x, y, a, b, by rw [k35]; exact c, by rw [k36, k37]; exact d, fun h => by rw [k36]; exact e h, fun h => ?_, fun h => ?_, by rw [kn]; exact j, ih (k + 1) u2 z (by omega) (fun j hj => he j (by omega))⟩
    · rw [k36, f h]
      rcases d with ⟨rfl, _⟩ | ⟨rfl, _⟩ | ⟨_, p, hp, d1, _⟩ | ⟨_, _, p, q, hp, hq, d1, d2⟩
      · omega
      · omega
      · rw [d1, n_cl (by omega), (he p (by omega)).2.2.2]
      · rw [d1, n_cl (by omega), (he p (by omega)).2.2.2]
    · rw [k37, i h]
      rcases d with ⟨rfl, _⟩ | ⟨rfl, _⟩ | ⟨rfl, _⟩ | ⟨_, _, p, q, hp, hq, d1, d2⟩
      · omega
      · omega
      · omega
      · rw [d2, n_cl (by omega), (he q (by omega)).2.2.2]
def PRE (N A P : Nat) (s t : St) : Prop := TS N A s t ∧ s.1 3 0 = mI ∧ (∃ F, F ≤ 240 ∧ s.1 0 0 = nI F) ∧ t.1 11 0 = nI P ∧ P ≤ A
def kP : List Nat := [3, 11, 35, 36, 37]
def SUC (N A P : Nat) (s t : St) (nums : Nat → Int32) (A' P' : Nat) (nums' : Nat → Int32) (v : Int32) (s' : St) (w : Int32) (t' : St) : Prop :=
  (A < A' ∧ P < P' ∧ P' + A ≤ P + A' ∧ w = nI (P' - 1) ∧ v = nums' (P' - 1)) ∧ PRE N A' P' s' t' ∧ GR s s' ∧ KE kP t t' ∧
  (∀ j, j < P → t'.1 35 j = t.1 35 j ∧ t'.1 36 j = t.1 36 j ∧ t'.1 37 j = t.1 37 j ∧ nums' j = nums j) ∧ Chn t'.1 nums' (P' - P) P s s' ∧ ((∃ k, P ≤ k ∧ k < P' ∧ nums' k = mI) → nums' (P' - 1) = mI)
def ERR (s t s' : St) (w : Int32) (t' : St) : Prop := w = mI ∧ (∃ E, E ≤ 400 ∧ s'.1 3 0 = nI E ∧ t'.1 3 0 = nI E) ∧ GR s s' ∧ KE kP t t'
def SIM (N A P : Nat) (s t : St) (nums : Nat → Int32) (cr mr : Option (Int32 × St)) : Prop := ∃ (v : Int32) (s' : St) (w : Int32) (t' : St), cr = some (v, s') ∧ mr = some (w, t') ∧
  (ERR s t s' w t' ∨ ∃ (A' P' : Nat) (nums' : Nat → Int32), SUC N A P s t nums A' P' nums' v s' w t')
def SIMF (d : Nat) (cf mf : St → Int32 → Option (Int32 × St)) : Prop := ∀ (N A P : Nat) (s t : St) (nums : Nat → Int32), PRE N A P s t → SIM N A P s t nums (cf s (nI d)) (mf t (nI d))
theorem PRE.mv {N A A' P : Nat} {s t s' t' : St} (h : PRE N A P s t) (ks : KE [2] s s') (kt : KE [3] t t') (ht : TS N A' s' t') (hA : A ≤ A') : PRE N A' P s' t' := by
  obtain ⟨a, b, ⟨F, c1, c2⟩, d, e⟩ := h
  exact ⟨ht, by rw [ks 3 (by decide)]; exact b, ⟨F, c1, by rw [ks 0 (by decide)]; exact c2⟩, by rw [kt 11 (by decide)]; exact d, by omega⟩
theorem PRE.gr {N A P : Nat} {s t s' : St} (h : PRE N A P s t) (ks : KE [2] s s') (h2 : s'.2 = s.2) : GR s s' := by
  obtain ⟨_, _, ⟨F, c1, c2⟩, _⟩ := h
  exact GR.k c1 c2 ks (by decide) h2
theorem ERR.pre {s t s0 t0 s' t' : St} {w : Int32} (h : ERR s0 t0 s' w t') (hg : GR s s0) (ht : KE kP t t0) : ERR s t s' w t' := by
  obtain ⟨a, b, c, d⟩ := h
  exact ⟨a, b, hg.tr c, ht.tr d⟩
theorem SUC.lead {N A A0 P A' P' : Nat} {s t s0 t0 s' t' : St} {nums nums' : Nat → Int32} {v w : Int32} (h0 : PRE N A P s t) (ks : KE [2] s s0) (h2 : s0.2 = s.2) (kt : KE [3] t t0) (hA : A ≤ A0) (h : SUC N A0 P s0 t0 nums A' P' nums' v s' w t') : SUC N A P s t nums A' P' nums' v s' w t' := by
  obtain ⟨⟨a1, a2, a3, a4, a5⟩, b, c, d, e, f, g⟩ := h
  refine ⟨⟨by omega, a2, by omega, a4, a5⟩, b, (h0.gr ks h2).tr c, (kt.wk (by decide)).tr d, fun j hj => ?_, f.pre (ks.wk (by decide)) h2, g⟩
  obtain ⟨e1, e2, e3, e4⟩ := e j hj
  exact ⟨by rw [e1, kt 35 (by decide)], by rw [e2, kt 36 (by decide)], by rw [e3, kt 37 (by decide)], e4⟩
theorem SUC.trail {N A P A1 P1 A2 : Nat} {s t s1 t1 s2 t2 : St} {nums nums1 : Nat → Int32} {v w : Int32} (h : SUC N A P s t nums A1 P1 nums1 v s1 w t1) (ks : KE [2] s1 s2) (h2 : s2.2 = s1.2) (kt : KE [3] t1 t2) (ht : TS N A2 s2 t2) (hA : A1 ≤ A2) : SUC N A P s t nums A2 P1 nums1 v s2 w t2 := by
  obtain ⟨⟨a1, a2, a3, a4, a5⟩, b, c, d, e, f, g⟩ := h
  refine ⟨⟨by omega, a2, by omega, a4, a5⟩, b.mv ks kt ht hA, c.tr (b.gr ks h2), d.tr (kt.wk (by decide)), fun j hj => ?_, ?_, g⟩
  · obtain ⟨e1, e2, e3, e4⟩ := e j hj
    exact ⟨by rw [kt 35 (by decide), e1], by rw [kt 36 (by decide), e2], by rw [kt 37 (by decide), e3], e4⟩
  · have hP1 : P1 ≤ 400 := by have := b.1.1.1; have := b.1.1.2.1; have := b.2.2.2.2; omega
    have f' : Chn t2.1 nums1 (P1 - P) P s s1 := f.c (g' := t2.1) (nums' := nums1) _ _ _ (by omega) (fun j _ => ⟨by rw [kt 35 (by decide)], by rw [kt 36 (by decide)], by rw [kt 37 (by decide)], rfl⟩)
    have := f'.app (m := 0) _ _ _ (show Chn t2.1 nums1 0 (P + (P1 - P)) s1 s2 from ⟨ks.wk (by decide), h2⟩)
    exact this
/-- one part more, on both sides -/
theorem part_rel {N A P so : Nat} {s t : St} {nums : Nat → Int32} (h : PRE N A P s t) (hP : P < A) (hso : so ≤ 5) {x y x' y' : Int32} (ag : AG P so x y) (h0 : so = 0 → x' = x) (h2 : 2 ≤ so → x' = nums x.toNatClampNeg) (h3 : 3 ≤ so → y' = nums y.toNatClampNeg) :
    ∃ r s' t', mX1_number s (nI so) x' y' = some (r, s') ∧ mX8_part t (nI so) x y = some (nI P, t') ∧ PRE N A (P + 1) s' t' ∧ GR s s' ∧ KE kP t t' ∧ (∀ j, j < P → t'.1 35 j = t.1 35 j ∧ t'.1 36 j = t.1 36 j ∧ t'.1 37 j = t.1 37 j) ∧
      Chn t'.1 (upd nums P r) 1 P s s' ∧ (2 ≤ so → x' = mI → r = mI) ∧ (3 ≤ so → y' = mI → r = mI) := by
  obtain ⟨hT, e3, ⟨F, hF, e0⟩, e11, hPA⟩ := h
  have hN := hT.1.2.1
  have hA := hT.1.1
  obtain ⟨r, s', F', n1, n2, n3, n4, n5, n6, n7, n8⟩ := x1_num_t hF e0 (nI so) x' y'
  obtain ⟨t', et⟩ : ∃ v, v = su (su (su (su t 35 (upd (t.1 35) P (nI so))) 36 (upd (t.1 36) P x)) 37 (upd (t.1 37) P y)) 11 (fun _ => nI (P + 1)) := ⟨_, rfl⟩
  have kt : KE [11, 35, 36, 37] t t' := by rw [et]; exact (((KE.rf.s (by decide)).s (by decide)).s (by decide)).s (by decide)
  have t35 : t'.1 35 = upd (t.1 35) P (nI so) := by rw [et]; rfl
  have t36 : t'.1 36 = upd (t.1 36) P x := by rw [et]; rfl
  have t37 : t'.1 37 = upd (t.1 37) P y := by rw [et]; rfl
  have un : ∀ z : Int32, z = mI → mX1_isKnown s z = some (nI 0) := fun z hz => by rw [hz]; rfl
  refine ⟨r, s', t', n1, ?_, ⟨hT.k n6 kt (by decide) (by decide), by rw [n6 3 (by decide)]; exact e3, ⟨F', n4, n2⟩, by rw [et]; rfl, by omega⟩, ⟨F, F', e0, n2, n3, n4, n5, n6.wk (by decide)⟩, kt.wk (by decide), fun j hj => ⟨by rw [t35, pk_un (by omega)], by rw [t36, pk_un (by omega)], by rw [t37, pk_un (by omega)]⟩, ?_, fun h hx => ?_, fun h hy => ?_⟩
  · rw [et]
    simp (implicitDefEqProofs := false) (disch := omega) only [mX8_part, e11, Nat.add_sub_cancel, ↓bnd_e, ↓ob_s, ob_s, su_1, su_2, sl_1, sl_2, ↓ck_n, ck_n, ck_Z0, ck_Z1, c_lt, c_le, c_eq, ng_1, m_ne, m_en, m_lt, m_le, m_gt, m_ge, n_add, n_mul, n_sub, n_sm, n_pm, n_0m, n_cl, Nat.reduceEqDiff, ↓reduceIte, nle_T, nle_F, nlt_T, nlt_F, neq_F, neq_T, if_true, if_false, true_and, and_true, Nat.mul_zero, Nat.zero_add, Nat.add_zero, Nat.reduceAdd, Nat.reduceMul, Nat.reduceSub, li_0, li_1, li_2, li_3, li_4, li_5, li_6, li_7, li_8, li_9, li_10, li_11, li_12, li_13, li_14, li_15, li_16, li_20, li_24, li_28, li_31, li_35, li_38, li_40, li_41, li_45, li_48, li_60, li_62, li_63, li_97, li_100, li_104, li_105, li_120, li_124, li_127, li_180, li_239, li_240, li_255, li_256, li_300, li_400, li_960, li_1000000]
  · refine ⟨s, s', so, x', y', ⟨KE.rf, rfl⟩, hso, by rw [t35, pk_us], by rw [t36, t37, pk_us, pk_us]; exact ag, fun h => by rw [t36, pk_us]; exact h0 h, fun h => ?_, fun h => ?_, by rw [pk_us]; exact n1, KE.rf, rfl⟩
    · rw [t36, pk_us, h2 h]
      rcases ag with ⟨rfl, _⟩ | ⟨rfl, _⟩ | ⟨_, p, hp, d1, _⟩ | ⟨_, _, p, q, hp, hq, d1, d2⟩
      · omega
      · omega
      · rw [d1, n_cl (by omega), pk_un (by omega)]
      · rw [d1, n_cl (by omega), pk_un (by omega)]
    · rw [t37, pk_us, h3 h]
      rcases ag with ⟨rfl, _⟩ | ⟨rfl, _⟩ | ⟨rfl, _⟩ | ⟨_, _, p, q, hp, hq, d1, d2⟩
      · omega
      · omega
      · omega
      · rw [d2, n_cl (by omega), pk_un (by omega)]
  · refine n8 ?_
    unfold mX1_hasParts
    rw [if_neg (show ¬ nI so = 0 by rw [show (0 : Int32) = nI 0 from rfl, c_eq (by omega) (by omega)]; omega), if_neg (show ¬ nI so = 1 by rw [show (1 : Int32) = nI 1 from rfl, c_eq (by omega) (by omega)]; omega), un x' hx, ob_s, if_pos (by decide)]; rfl
  · refine n8 ?_
    unfold mX1_hasParts
    rw [if_neg (show ¬ nI so = 0 by rw [show (0 : Int32) = nI 0 from rfl, c_eq (by omega) (by omega)]; omega), if_neg (show ¬ nI so = 1 by rw [show (1 : Int32) = nI 1 from rfl, c_eq (by omega) (by omega)]; omega)]
    rcases ik_t s x' with k | k
    · rw [k, ob_s, if_pos (by decide)]; rfl
    · rw [k, ob_s, if_neg (by decide), if_neg (show ¬ nI so = 2 by rw [show (2 : Int32) = nI 2 from rfl, c_eq (by omega) (by omega)]; omega), un y' hy, ob_s, if_pos (by decide)]; rfl
