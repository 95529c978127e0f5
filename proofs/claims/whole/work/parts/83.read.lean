/-- the reference's second walk: it asks for the same numbers, one after the other -/
theorem read_2 {g : Nat → Nat → Int32} {nums : Nat → Int32} {root F0 P : Nat} (hP : P ≤ 400) (hF0 : F0 ≤ 240) (hroot : root < P) : ∀ n k m (s s' t : St) (F : Nat), k + n = P → n < m → Chn g nums n k s s' → RF F s t → t.1 11 0 = nI P → (∀ j, j < P → t.1 35 j = g 35 j ∧ t.1 36 j = g 36 j ∧ t.1 37 j = g 37 j) → (∀ j, j < k → t.1 42 j = nums j ∧ ∃ f, f < F ∧ nums j = nI f) →
    (∃ t' F', mX8_read_73 m t (nI root) (nI F0) (nI k) = some (nums root, t') ∧ RF F' s' t' ∧ F ≤ F' ∧ KE (42 :: kM) t t' ∧ ∃ f, f < F' ∧ nums root = nI f) ∨
    (∃ t', mX8_read_73 m t (nI root) (nI F0) (nI k) = some (-nI 2, t') ∧ t'.1 5 0 = nI F0 ∧ t'.1 2 0 = nI 0 ∧ PM F t t' ∧ KE (2 :: 42 :: kM) t t' ∧ ∃ j, k ≤ j ∧ j < P ∧ nums j = mI) := by
  intro n
  induction n with
  | zero =>
    intro k m s s' t F hk hm hC hf h11 harr h42
    obtain ⟨m, rfl⟩ : ∃ q, m = q + 1 := ⟨m - 1, by omega⟩
    obtain ⟨c1, c2⟩ := hC
    obtain ⟨r1, f, f1, f2⟩ := h42 root (by omega)
    refine Or.inl ⟨t, F, ?_, hf.c (.k c1 (by decide)) c2 (fun _ _ => rfl), Nat.le_refl _, KE.rf, f, f1, f2⟩
    simp (implicitDefEqProofs := false) (disch := omega) only [fx_s, bX8_read_73, h11, r1, ↓bnd_e, ↓ob_s, ob_s, su_1, su_2, sl_1, sl_2, ↓ck_n, ck_n, ck_Z0, ck_Z1, c_lt, c_le, c_eq, ng_1, m_ne, m_en, m_lt, m_le, m_gt, m_ge, n_add, n_mul, n_sub, n_sm, n_pm, n_0m, n_cl, Nat.reduceEqDiff, ↓reduceIte, nle_T, nle_F, nlt_T, nlt_F, neq_F, neq_T, if_true, if_false, true_and, and_true, Nat.mul_zero, Nat.zero_add, Nat.add_zero, Nat.reduceAdd, Nat.reduceMul, Nat.reduceSub, li_0, li_1, li_2, li_3, li_4, li_5, li_6, li_7, li_8, li_9, li_10, li_11, li_12, li_13, li_14, li_15, li_16, li_20, li_24, li_28, li_31, li_35, li_38, li_40, li_41, li_45, li_48, li_60, li_62, li_63, li_97, li_100, li_104, li_105, li_120, li_124, li_127, li_180, li_239, li_240, li_255, li_256, li_300, li_400, li_960, li_1000000]
  | succ n ih =>
    intro k m s s' t F hk hm hC hf h11 harr h42
    obtain ⟨m, rfl⟩ : ∃ q, m = q + 1 := ⟨m - 1, by omega⟩
    obtain ⟨s1, s2, so, x, y, ⟨c1, c2⟩, hso, g35, ag, hx0, hx2, hy3, hnum, hC'⟩ := hC
    have hf1 : RF F s1 t := hf.c (.k c1 (by decide)) c2 (fun _ _ => rfl)
    have hFle := hf.le
    obtain ⟨a35, a36, a37⟩ := harr k (by omega)
    rw [g35] at a35
    -- what it asks for
    obtain ⟨X, Y, agX, cg, est⟩ : ∃ X Y, AG F so X Y ∧ CG so X Y x y ∧ ∀ r τ', mX8_known t (nI so) X Y = some (r, τ') → mX8_read_73 (m + 1) t (nI root) (nI F0) (nI k) = if r = mI then mX8_read_194 (su τ' 42 (upd (t.1 42) k r)) (nI F0) else mX8_read_73 m (su τ' 42 (upd (t.1 42) k r)) (nI root) (nI F0) (nI (k + 1)) := by
      have e0 : mX8_read_73 (m + 1) t (nI root) (nI F0) (nI k) = bX8_read_73 (mX8_read_73 m) t (nI root) (nI F0) (nI k) := rfl
      rcases ag with ⟨rfl, l, hl, d1, d2⟩ | ⟨rfl, d1, d2⟩ | ⟨rfl, a, ha, d1, d2⟩ | ⟨s3, s5, a, b, ha, hb, d1, d2⟩
      · rw [d1] at a36
        refine ⟨nI l, mI, Or.inl ⟨rfl, l, hl, rfl, rfl⟩, Or.inl ⟨rfl, by rw [hx0 rfl, d1]⟩, fun r τ' ek => ?_⟩
        rw [e0]
        simp (implicitDefEqProofs := false) (disch := omega) only [bX8_read_73, mX8_read_98, mX8_read_138, mX8_read_181, mX8_read_182, h11, a35, a36, ek, su_su, pk_us, ↓bnd_e, ↓ob_s, ob_s, su_1, su_2, sl_1, sl_2, ↓ck_n, ck_n, ck_Z0, ck_Z1, c_lt, c_le, c_eq, ng_1, m_ne, m_en, m_lt, m_le, m_gt, m_ge, n_add, n_mul, n_sub, n_sm, n_pm, n_0m, n_cl, Nat.reduceEqDiff, ↓reduceIte, nle_T, nle_F, nlt_T, nlt_F, neq_F, neq_T, if_true, if_false, true_and, and_true, Nat.mul_zero, Nat.zero_add, Nat.add_zero, Nat.reduceAdd, Nat.reduceMul, Nat.reduceSub, li_0, li_1, li_2, li_3, li_4, li_5, li_6, li_7, li_8, li_9, li_10, li_11, li_12, li_13, li_14, li_15, li_16, li_20, li_24, li_28, li_31, li_35, li_38, li_40, li_41, li_45, li_48, li_60, li_62, li_63, li_97, li_100, li_104, li_105, li_120, li_124, li_127, li_180, li_239, li_240, li_255, li_256, li_300, li_400, li_960, li_1000000]
      · refine ⟨mI, mI, Or.inr (Or.inl ⟨rfl, rfl, rfl⟩), Or.inr (Or.inl rfl), fun r τ' ek => ?_⟩
        rw [e0]
        simp (implicitDefEqProofs := false) (disch := omega) only [bX8_read_73, mX8_read_98, mX8_read_138, mX8_read_181, mX8_read_182, h11, a35, ek, su_su, pk_us, ↓bnd_e, ↓ob_s, ob_s, su_1, su_2, sl_1, sl_2, ↓ck_n, ck_n, ck_Z0, ck_Z1, c_lt, c_le, c_eq, ng_1, m_ne, m_en, m_lt, m_le, m_gt, m_ge, n_add, n_mul, n_sub, n_sm, n_pm, n_0m, n_cl, Nat.reduceEqDiff, ↓reduceIte, nle_T, nle_F, nlt_T, nlt_F, neq_F, neq_T, if_true, if_false, true_and, and_true, Nat.mul_zero, Nat.zero_add, Nat.add_zero, Nat.reduceAdd, Nat.reduceMul, Nat.reduceSub, li_0, li_1, li_2, li_3, li_4, li_5, li_6, li_7, li_8, li_9, li_10, li_11, li_12, li_13, li_14, li_15, li_16, li_20, li_24, li_28, li_31, li_35, li_38, li_40, li_41, li_45, li_48, li_60, li_62, li_63, li_97, li_100, li_104, li_105, li_120, li_124, li_127, li_180, li_239, li_240, li_255, li_256, li_300, li_400, li_960, li_1000000]
      · obtain ⟨na, fa, fa1, fa2⟩ := h42 a (by omega)
        rw [d1] at a36
        rw [d2] at a37
        rw [fa2] at na
        refine ⟨nI fa, mI, Or.inr (Or.inr (Or.inl ⟨rfl, fa, fa1, rfl, rfl⟩)), Or.inr (Or.inr (Or.inl ⟨rfl, by rw [hx2 (by omega), d1, n_cl (by omega), fa2]⟩)), fun r τ' ek => ?_⟩
        rw [e0]
        simp (implicitDefEqProofs := false) (disch := omega) only [bX8_read_73, mX8_read_98, mX8_read_138, mX8_read_181, mX8_read_182, h11, a35, a36, a37, na, ek, su_su, pk_us, ↓bnd_e, ↓ob_s, ob_s, su_1, su_2, sl_1, sl_2, ↓ck_n, ck_n, ck_Z0, ck_Z1, c_lt, c_le, c_eq, ng_1, m_ne, m_en, m_lt, m_le, m_gt, m_ge, n_add, n_mul, n_sub, n_sm, n_pm, n_0m, n_cl, Nat.reduceEqDiff, ↓reduceIte, nle_T, nle_F, nlt_T, nlt_F, neq_F, neq_T, if_true, if_false, true_and, and_true, Nat.mul_zero, Nat.zero_add, Nat.add_zero, Nat.reduceAdd, Nat.reduceMul, Nat.reduceSub, li_0, li_1, li_2, li_3, li_4, li_5, li_6, li_7, li_8, li_9, li_10, li_11, li_12, li_13, li_14, li_15, li_16, li_20, li_24, li_28, li_31, li_35, li_38, li_40, li_41, li_45, li_48, li_60, li_62, li_63, li_97, li_100, li_104, li_105, li_120, li_124, li_127, li_180, li_239, li_240, li_255, li_256, li_300, li_400, li_960, li_1000000]
      · obtain ⟨na, fa, fa1, fa2⟩ := h42 a (by omega)
        obtain ⟨nb, fb, fb1, fb2⟩ := h42 b (by omega)
        rw [d1] at a36
        rw [d2] at a37
        rw [fa2] at na
        rw [fb2] at nb
        refine ⟨nI fa, nI fb, Or.inr (Or.inr (Or.inr ⟨s3, s5, fa, fb, fa1, fb1, rfl, rfl⟩)), Or.inr (Or.inr (Or.inr ⟨s3, by rw [hx2 (by omega), d1, n_cl (by omega), fa2], by rw [hy3 s3, d2, n_cl (by omega), fb2]⟩)), fun r τ' ek => ?_⟩
        rw [e0]
        simp (implicitDefEqProofs := false) (disch := omega) only [bX8_read_73, mX8_read_98, mX8_read_138, mX8_read_181, mX8_read_182, h11, a35, a36, a37, na, nb, ek, su_su, pk_us, ↓bnd_e, ↓ob_s, ob_s, su_1, su_2, sl_1, sl_2, ↓ck_n, ck_n, ck_Z0, ck_Z1, c_lt, c_le, c_eq, ng_1, m_ne, m_en, m_lt, m_le, m_gt, m_ge, n_add, n_mul, n_sub, n_sm, n_pm, n_0m, n_cl, Nat.reduceEqDiff, ↓reduceIte, nle_T, nle_F, nlt_T, nlt_F, neq_F, neq_T, if_true, if_false, true_and, and_true, Nat.mul_zero, Nat.zero_add, Nat.add_zero, Nat.reduceAdd, Nat.reduceMul, Nat.reduceSub, li_0, li_1, li_2, li_3, li_4, li_5, li_6, li_7, li_8, li_9, li_10, li_11, li_12, li_13, li_14, li_15, li_16, li_20, li_24, li_28, li_31, li_35, li_38, li_40, li_41, li_45, li_48, li_60, li_62, li_63, li_97, li_100, li_104, li_105, li_120, li_124, li_127, li_180, li_239, li_240, li_255, li_256, li_300, li_400, li_960, li_1000000]
    obtain ⟨r, σ', τ', F1, n1, n8, nR, nF, nP, nM, nk1, nk8, nr⟩ := num_rel hf1 agX cg
    rw [hnum] at n1
    obtain ⟨rfl, rfl⟩ := Prod.mk.inj (Option.some.inj n1)
    have es := est _ _ n8
    rcases nr with e | ⟨f, hf2, e⟩
    · rw [if_pos e] at es
      refine Or.inr ⟨su (su (su τ' 42 (upd (t.1 42) k (nums k))) 5 (fun _ => nI F0)) 2 (fun _ => nI 0), ?_, rfl, rfl, ((nM.o 42 _ (by omega)).o 5 _ (by omega)).o 2 _ (by omega), ?_, k, Nat.le_refl _, by omega, e⟩
      · rw [es]
        simp (implicitDefEqProofs := false) (disch := omega) only [mX8_read_194, ↓bnd_e, ↓ob_s, ob_s, su_1, su_2, sl_1, sl_2, ↓ck_n, ck_n, ck_Z0, ck_Z1, c_lt, c_le, c_eq, ng_1, m_ne, m_en, m_lt, m_le, m_gt, m_ge, n_add, n_mul, n_sub, n_sm, n_pm, n_0m, n_cl, Nat.reduceEqDiff, ↓reduceIte, nle_T, nle_F, nlt_T, nlt_F, neq_F, neq_T, if_true, if_false, true_and, and_true, Nat.mul_zero, Nat.zero_add, Nat.add_zero, Nat.reduceAdd, Nat.reduceMul, Nat.reduceSub, li_0, li_1, li_2, li_3, li_4, li_5, li_6, li_7, li_8, li_9, li_10, li_11, li_12, li_13, li_14, li_15, li_16, li_20, li_24, li_28, li_31, li_35, li_38, li_40, li_41, li_45, li_48, li_60, li_62, li_63, li_97, li_100, li_104, li_105, li_120, li_124, li_127, li_180, li_239, li_240, li_255, li_256, li_300, li_400, li_960, li_1000000]
      · exact (((nk8.wk (by decide)).s (by decide)).s (by decide)).s (by decide)
    · rw [if_neg (by rw [e, m_ne (by have := nR.le; omega)]; exact fun h => h)] at es
      have k3 : KE (42 :: kM) t (su τ' 42 (upd (t.1 42) k (nums k))) := (nk8.wk (by decide)).s (by decide)
      have R3 : RF F1 s2 (su τ' 42 (upd (t.1 42) k (nums k))) := nR.c (fun _ _ => rfl) rfl (.k (KE.rf.s (l := [42]) (by decide)) (by decide))
      have z := ih (k + 1) m s2 s' (su τ' 42 (upd (t.1 42) k (nums k))) F1 (by omega) (by omega) hC' R3 (by rw [k3 11 (by decide)]; exact h11) (fun j hj => by rw [k3 35 (by decide), k3 36 (by decide), k3 37 (by decide)]; exact harr j hj) (fun j hj => by
        show upd (t.1 42) k (nums k) j = nums j ∧ _
        by_cases ej : j = k
        · rw [ej, pk_us]; exact ⟨rfl, f, hf2, e⟩
        · rw [pk_un ej]
          obtain ⟨y1, f', y2, y3⟩ := h42 j (by omega)
          exact ⟨y1, f', by omega, y3⟩)
      rcases z with ⟨t', F', z1, z2, z3, z4, z5⟩ | ⟨t', z1, z2, z3, z4, z5, j, j1, j2, j3⟩
      · exact Or.inl ⟨t', F', es.trans z1, z2, by omega, k3.tr z4, z5⟩
      · exact Or.inr ⟨t', es.trans z1, z2, z3, (nM.o 42 _ (by omega)).tr (z4.le nF), (k3.wk (by decide)).tr z5, j, by omega, j2, j3⟩
theorem forget {s : St} {F F' : Nat} (h : s.1 0 0 = nI F') (hF : F ≤ F') (hF' : F' ≤ 240) : ∃ s', mX1_forgetFrom s (nI F) = some s' ∧ s'.1 0 0 = nI F ∧ KE [0] s s' ∧ s'.2 = s.2 := by
  by_cases e : F < F'
  · refine ⟨su s 0 (fun _ => nI F), ?_, rfl, KE.rf.s (by decide), rfl⟩
    simp (implicitDefEqProofs := false) (disch := omega) only [mX1_forgetFrom, h, ↓bnd_e, ↓ob_s, ob_s, su_1, su_2, sl_1, sl_2, ↓ck_n, ck_n, ck_Z0, ck_Z1, c_lt, c_le, c_eq, ng_1, m_ne, m_en, m_lt, m_le, m_gt, m_ge, n_add, n_mul, n_sub, n_sm, n_pm, n_0m, n_cl, Nat.reduceEqDiff, ↓reduceIte, nle_T, nle_F, nlt_T, nlt_F, neq_F, neq_T, if_true, if_false, true_and, and_true, Nat.mul_zero, Nat.zero_add, Nat.add_zero, Nat.reduceAdd, Nat.reduceMul, Nat.reduceSub, li_0, li_1, li_2, li_3, li_4, li_5, li_6, li_7, li_8, li_9, li_10, li_11, li_12, li_13, li_14, li_15, li_16, li_20, li_24, li_28, li_31, li_35, li_38, li_40, li_41, li_45, li_48, li_60, li_62, li_63, li_97, li_100, li_104, li_105, li_120, li_124, li_127, li_180, li_239, li_240, li_255, li_256, li_300, li_400, li_960, li_1000000]
  · have : F = F' := by omega
    subst this
    refine ⟨s, ?_, h, KE.rf, rfl⟩
    simp (implicitDefEqProofs := false) (disch := omega) only [mX1_forgetFrom, h, ↓bnd_e, ↓ob_s, ob_s, su_1, su_2, sl_1, sl_2, ↓ck_n, ck_n, ck_Z0, ck_Z1, c_lt, c_le, c_eq, ng_1, m_ne, m_en, m_lt, m_le, m_gt, m_ge, n_add, n_mul, n_sub, n_sm, n_pm, n_0m, n_cl, Nat.reduceEqDiff, ↓reduceIte, nle_T, nle_F, nlt_T, nlt_F, neq_F, neq_T, if_true, if_false, true_and, and_true, Nat.mul_zero, Nat.zero_add, Nat.add_zero, Nat.reduceAdd, Nat.reduceMul, Nat.reduceSub, li_0, li_1, li_2, li_3, li_4, li_5, li_6, li_7, li_8, li_9, li_10, li_11, li_12, li_13, li_14, li_15, li_16, li_20, li_24, li_28, li_31, li_35, li_38, li_40, li_41, li_45, li_48, li_60, li_62, li_63, li_97, li_100, li_104, li_105, li_120, li_124, li_127, li_180, li_239, li_240, li_255, li_256, li_300, li_400, li_960, li_1000000]
def kT : List Nat := [0, 1, 2, 3, 5, 11, 15, 16, 17, 18, 19, 20, 35, 36, 37, 42]
theorem RR_read {F T F' : Nat} {σ τ s t : St} (hp : RP σ τ) (hh : RH F T σ τ) (hv : RV F T σ τ) (hb : BY σ τ) (kσ : KE (1 :: kR) σ s) (kτ : KE kT τ t) (hF : F ≤ F') (hf' : RF F' s t) (e1 : s.1 1 0 = nI 0) (e8 : t.1 1 0 = nI 0) (e3 : s.1 3 0 = t.1 2 0) : RR s t :=
  ⟨F', T, hf', ⟨⟨0, by omega, e1, e8⟩, e3, fun k => by rw [kσ 18 (by decide), kτ 13 (by decide)]; exact hb k⟩, hp.c (.k kσ (by decide)) (.k kτ (by decide)), hh.c hF (.k kσ (by decide)) (.k kτ (by decide)), hv.c hh.1.1 hF (.k kσ (by decide)) (.k kτ (by decide))⟩
theorem PF.k {F : Nat} {s s' : St} {l : List Nat} (h : KE l s s') (hl : ∀ c, c ∈ [12, 13, 14, 15, 16, 17] → c ∉ l) (h2 : s'.2 = s.2) : PF F s s' := by
  refine ⟨fun c j a b _ => ?_, fun i _ => by rw [h2]⟩
  have : c = 12 ∨ c = 13 ∨ c = 14 ∨ c = 15 ∨ c = 16 ∨ c = 17 := by omega
  rw [h c (hl c (by rcases this with rfl | rfl | rfl | rfl | rfl | rfl <;> decide))]
theorem PM.k {F : Nat} {s s' : St} {l : List Nat} (h : KE l s s') (hl : ∀ c, c ∈ [15, 16, 17, 18, 19, 20] → c ∉ l) : PM F s s' := by
  refine ⟨fun c j a b _ => ?_, fun i _ => by rw [h 20 (hl 20 (by decide))]⟩
  have : c = 15 ∨ c = 16 ∨ c = 17 ∨ c = 18 ∨ c = 19 := by omega
  rw [h c (hl c (by rcases this with rfl | rfl | rfl | rfl | rfl <;> decide))]
theorem P_read {σ τ : St} (h : RR σ τ) : ∃ (r : Int32) (σ' : St) (τ' : St), mX7_read σ = some (r, σ') ∧ mX8_read τ = some (r, τ') ∧ RR σ' τ' := by
  obtain ⟨F, T, hf, ⟨⟨N, hN, n1, n8⟩, ht2, ht3⟩, hp, hh, hv⟩ := h
  have hF := hf.le
  have hb : BY σ τ := ht3
  obtain ⟨s0, es0⟩ : ∃ v, v = su (su σ 2 (fun _ => nI 0)) 3 (fun _ => mI) := ⟨_, rfl⟩
  obtain ⟨t0, et0⟩ : ∃ v, v = su (su (su (su τ 0 (fun _ => nI 0)) 2 (fun _ => mI)) 3 (fun _ => nI 0)) 11 (fun _ => nI 0) := ⟨_, rfl⟩
  have ks0 : KE [2, 3] σ s0 := by rw [es0]; exact (KE.rf.s (by decide)).s (by decide)
  have kt0 : KE [0, 2, 3, 11] τ t0 := by rw [et0]; exact (((KE.rf.s (by decide)).s (by decide)).s (by decide)).s (by decide)
  have s02 : s0.2 = σ.2 := by rw [es0]; rfl
  have s00 : s0.1 0 0 = nI F := by rw [ks0 0 (by decide)]; exact hf.1.2.1
  have pre : PRE N 0 0 s0 t0 := ⟨⟨⟨by omega, hN, by rw [ks0 1 (by decide)]; exact n1, by rw [kt0 1 (by decide)]; exact n8, by rw [es0]; rfl, by rw [et0]; rfl⟩, fun k => by rw [ks0 18 (by decide), kt0 13 (by decide)]; exact hb k⟩, by rw [es0]; rfl, ⟨F, hF, s00⟩, by rw [et0]; rfl, by omega⟩
  have ec : mX7_read σ = (mX5_form s0 (nI 0)).bind fun ⟨r16, s18⟩ => (if 0 ≤ (s18.1 3 0) then mX5_parse_43 s18 (nI F) r16 else (mX5_next s18).bind fun ⟨r20, s22⟩ => if r20 < 0 then mX5_parse_43 s22 (nI F) r16 else (mX5_fail s22).bind fun ⟨r24, s26⟩ => mX5_parse_43 s26 (nI F) r16) := by
    unfold mX7_read mX5_parse mX1_known
    rw [hf.1.2.1, es0]
    show ((mX5_form (su (su σ 2 (fun _ => nI 0)) 3 (fun _ => mI)) (nI 0)).bind _).bind _ = _
    cases mX5_form (su (su σ 2 (fun _ => nI 0)) 3 (fun _ => mI)) (nI 0) with
    | none => rfl
    | some x =>
      obtain ⟨xa, xb⟩ := x
      rw [ob_s]
      dsimp only
      have key : ∀ o : Option (Int32 × St), (o.bind fun x => match x with | (r1, s3) => some (r1, s3)) = o := fun o => by cases o <;> rfl
      exact key _
  have em : mX8_read τ = (mX8_form t0 (nI 0)).bind fun ⟨r55, s57⟩ => if r55 = (-1) then mX8_read_39 s57 else (mX8_here s57).bind fun ⟨r59, s61⟩ => if r59 = (-1) then mX8_read_73 NF (su (su s61 1 (fun _ => nI 0)) 42 (fun _ => nI 0)) r55 (s61.1 5 0) (nI 0) else mX8_read_39 s61 := by
    unfold mX8_read
    rw [et0]
    rfl
  obtain ⟨v, s1, w, t1, e1, e2, hE | ⟨A1, P1, nums, S⟩⟩ := (sim_all 11 0 (by omega)).1 40 56 (by omega) (by omega) N 0 0 s0 t0 (fun _ => mI) pre
  · -- an error
    have e1' : mX5_form s0 (nI 0) = some (v, s1) := e1
    have e2' : mX8_form t0 (nI 0) = some (w, t1) := e2
    obtain ⟨w0, ⟨E, hE400, x3, x8⟩, ⟨F1, F', g1, g2, g3, g4, g5, g6⟩, kt1⟩ := hE
    subst w0
    rw [s00, c_eq (by omega) (by omega)] at g1
    subst g1
    obtain ⟨s5, y1, y2, y3, y4⟩ := forget (s := su s1 1 (fun _ => nI 0)) (F := F) g2 g3 g4
    have kσ : KE (1 :: kR) σ s5 := ((ks0.wk (by decide)).tr (g6.wk (by decide))).tr ((KE.rf.s (l := [1]) (k := 1) (f := fun _ => nI 0) (by decide)).wk (by decide) |>.tr (y3.wk (by decide)))
    have kτ : KE kT τ (su (su t1 2 (fun _ => nI E)) 1 (fun _ => nI 0)) := (((kt0.wk (by decide)).tr (kt1.wk (by decide))).s (by decide)).s (by decide)
    have pf : PF F σ s5 := ((PF.k ks0 (by decide) s02).tr g5).tr ((PF.k (KE.rf.s (l := [1]) (k := 1) (f := fun _ => nI 0) (by decide)) (by decide) rfl).tr (PF.k y3 (by decide) y4))
    have pm : PM F τ (su (su t1 2 (fun _ => nI E)) 1 (fun _ => nI 0)) := PM.k (l := [0, 1, 2, 3, 11, 35, 36, 37]) ((((kt0.wk (by decide)).tr (kt1.wk (by decide))).s (by decide)).s (by decide)) (by decide)
    have hf' : RF F s5 (su (su t1 2 (fun _ => nI E)) 1 (fun _ => nI 0)) := hf.cut (Nat.le_refl _) pf pm y2 (by
      show t1.1 5 0 = nI F
      rw [kt1 5 (by decide), kt0 5 (by decide)]; exact hf.1.2.2)
    have s53 : s5.1 3 0 = nI E := by rw [y3 3 (by decide)]; exact x3
    refine ⟨mI, s5, su (su t1 2 (fun _ => nI E)) 1 (fun _ => nI 0), ?_, ?_, RR_read hp hh hv hb kσ kτ (Nat.le_refl _) hf' (by rw [y3 1 (by decide)]; rfl) rfl s53⟩
    · rw [ec, e1', ob_s]
      dsimp only
      rw [x3, if_pos (nI_pos' (by omega))]
      simp (implicitDefEqProofs := false) (disch := omega) only [mX5_parse_43, x3, y1, ↓bnd_e, ↓ob_s, ob_s, su_1, su_2, sl_1, sl_2, ↓ck_n, ck_n, ck_Z0, ck_Z1, c_lt, c_le, c_eq, ng_1, m_ne, m_en, m_lt, m_le, m_gt, m_ge, n_add, n_mul, n_sub, n_sm, n_pm, n_0m, n_cl, Nat.reduceEqDiff, ↓reduceIte, nle_T, nle_F, nlt_T, nlt_F, neq_F, neq_T, if_true, if_false, true_and, and_true, Nat.mul_zero, Nat.zero_add, Nat.add_zero, Nat.reduceAdd, Nat.reduceMul, Nat.reduceSub, li_0, li_1, li_2, li_3, li_4, li_5, li_6, li_7, li_8, li_9, li_10, li_11, li_12, li_13, li_14, li_15, li_16, li_20, li_24, li_28, li_31, li_35, li_38, li_40, li_41, li_45, li_48, li_60, li_62, li_63, li_97, li_100, li_104, li_105, li_120, li_124, li_127, li_180, li_239, li_240, li_255, li_256, li_300, li_400, li_960, li_1000000]
    · rw [em, e2', ob_s]
      dsimp only
      rw [if_pos (show mI = -1 from rfl)]
      simp (implicitDefEqProofs := false) (disch := omega) only [mX8_read_39, x8, ↓bnd_e, ↓ob_s, ob_s, su_1, su_2, sl_1, sl_2, ↓ck_n, ck_n, ck_Z0, ck_Z1, c_lt, c_le, c_eq, ng_1, m_ne, m_en, m_lt, m_le, m_gt, m_ge, n_add, n_mul, n_sub, n_sm, n_pm, n_0m, n_cl, Nat.reduceEqDiff, ↓reduceIte, nle_T, nle_F, nlt_T, nlt_F, neq_F, neq_T, if_true, if_false, true_and, and_true, Nat.mul_zero, Nat.zero_add, Nat.add_zero, Nat.reduceAdd, Nat.reduceMul, Nat.reduceSub, li_0, li_1, li_2, li_3, li_4, li_5, li_6, li_7, li_8, li_9, li_10, li_11, li_12, li_13, li_14, li_15, li_16, li_20, li_24, li_28, li_31, li_35, li_38, li_40, li_41, li_45, li_48, li_60, li_62, li_63, li_97, li_100, li_104, li_105, li_120, li_124, li_127, li_180, li_239, li_240, li_255, li_256, li_300, li_400, li_960, li_1000000]
  · have e1' : mX5_form s0 (nI 0) = some (v, s1) := e1
    have e2' : mX8_form t0 (nI 0) = some (w, t1) := e2
    obtain ⟨⟨z1, z2, z3, z4, z5⟩, pr1, gr1, kt1, _, ch1, mi1⟩ := S
    have hP400 : P1 ≤ 400 := by have := pr1.2.2.2.2; have := pr1.1.1.1; omega
    obtain ⟨A2, s2, t2, x1, x2, x3, x4, x5, x6, x7, x8, x9⟩ := next_rel pr1.1
    have pr2 := pr1.mv x4 x5 x3 x7
    have s23 : s2.1 3 0 = mI := pr2.2.1
    obtain ⟨F1, F', g1, g2, g3, g4, g5, g6⟩ := gr1.tr (pr1.gr x4 x6)
    rw [s00, c_eq (by omega) (by omega)] at g1
    subst g1
    have kt2 : KE kP t0 t2 := kt1.tr (x5.wk (by decide))
    have s13 : s1.1 3 0 = mI := pr1.2.1
    rcases chr_v x3 with ⟨eN, e⟩ | ⟨b, hb1, hb2, e⟩
    · -- the end of the tape
      rw [e] at x1 x2
      obtain ⟨t5, et5⟩ : ∃ u, u = su (su t2 1 (fun _ => nI 0)) 42 (fun _ => nI 0) := ⟨_, rfl⟩
      have k52 : KE [1, 42] t2 t5 := by rw [et5]; exact (KE.rf.s (by decide)).s (by decide)
      have kτ5 : KE [0, 1, 2, 3, 11, 35, 36, 37, 42] τ t5 := ((kt0.wk (by decide)).tr (kt2.wk (by decide))).tr (k52.wk (by decide))
      have R0 : RF F s0 t5 := hf.c (.k ks0 (by decide)) s02 (.k kτ5 (by decide))
      have ch2 : Chn t1.1 nums P1 0 s0 s2 := by
        have := ch1.app (m := 0) _ _ _ (show Chn t1.1 nums 0 (0 + (P1 - 0)) s1 s2 from ⟨x4.wk (by decide), x6⟩)
        exact this
      have em2 : mX8_read τ = mX8_read_73 NF t5 (nI (P1 - 1)) (nI F) (nI 0) := by
        have q5 : t2.1 5 0 = nI F := by rw [kt2 5 (by decide), kt0 5 (by decide)]; exact hf.1.2.2
        rw [em, e2', ob_s]
        dsimp only
        rw [z4, if_neg (show ¬ nI (P1 - 1) = -1 by rw [show (-1 : Int32) = mI from rfl, m_ne (by omega)]; exact fun h => h), x2, ob_s]
        dsimp only
        rw [if_pos (show mI = -1 from rfl), q5, ← et5]
      have ec2 : mX7_read σ = mX5_parse_43 s2 (nI F) v := by
        rw [ec, e1', ob_s]
        dsimp only
        rw [s13, if_neg (by decide), x1, ob_s]
        dsimp only
        rw [if_pos (by decide)]
      rcases read_2 (F0 := F) (root := P1 - 1) hP400 hF (by omega) P1 0 NF s0 s2 t5 F (by omega) (by show P1 < 1000; omega) ch2 R0 (by rw [k52 11 (by decide), x5 11 (by decide)]; exact pr1.2.2.2.1) (fun j _ => by
          rw [k52 35 (by decide), k52 36 (by decide), k52 37 (by decide), x5 35 (by decide), x5 36 (by decide), x5 37 (by decide)]; exact ⟨rfl, rfl, rfl⟩) (fun j hj => absurd hj (by omega)) with ⟨t', F2, y1, y2, y3, y4, f, y5, y6⟩ | ⟨t', y1, y2, y3, y4, y5, j, j1, j2, j3⟩
      · have R3 : RF F2 (su s2 1 (fun _ => nI 0)) t' := y2.c (.k (KE.rf.s (l := [1]) (by decide)) (by decide)) rfl (fun _ _ => rfl)
        have kσ : KE (1 :: kR) σ (su s2 1 (fun _ => nI 0)) := ((ks0.wk (by decide)).tr (g6.wk (by decide))).s (by decide)
        have kτ : KE kT τ t' := (kτ5.wk (by decide)).tr (y4.wk (by decide))
        have hF2 := y2.le
        refine ⟨nI f, su s2 1 (fun _ => nI 0), t', ?_, ?_, RR_read hp hh hv hb kσ kτ y3 R3 rfl ?_ ?_⟩
        · rw [ec2, z5, y6]
          simp (implicitDefEqProofs := false) (disch := omega) only [mX5_parse_43, s23, ↓bnd_e, ↓ob_s, ob_s, su_1, su_2, sl_1, sl_2, ↓ck_n, ck_n, ck_Z0, ck_Z1, c_lt, c_le, c_eq, ng_1, m_ne, m_en, m_lt, m_le, m_gt, m_ge, n_add, n_mul, n_sub, n_sm, n_pm, n_0m, n_cl, Nat.reduceEqDiff, ↓reduceIte, nle_T, nle_F, nlt_T, nlt_F, neq_F, neq_T, if_true, if_false, true_and, and_true, Nat.mul_zero, Nat.zero_add, Nat.add_zero, Nat.reduceAdd, Nat.reduceMul, Nat.reduceSub, li_0, li_1, li_2, li_3, li_4, li_5, li_6, li_7, li_8, li_9, li_10, li_11, li_12, li_13, li_14, li_15, li_16, li_20, li_24, li_28, li_31, li_35, li_38, li_40, li_41, li_45, li_48, li_60, li_62, li_63, li_97, li_100, li_104, li_105, li_120, li_124, li_127, li_180, li_239, li_240, li_255, li_256, li_300, li_400, li_960, li_1000000]
        · rw [em2, y1, y6]
        · rw [y4 1 (by decide), et5]; rfl
        · show s2.1 3 0 = _
          rw [s23, y4 2 (by decide), k52 2 (by decide), kt2 2 (by decide), et0]; rfl
      · have vm : v = mI := by rw [z5]; exact mi1 ⟨j, by omega, j2, j3⟩
        obtain ⟨s5, u1, u2, u3, u4⟩ := forget (s := su s2 1 (fun _ => nI 0)) (F := F) g2 g3 g4
        have k25 : KE [0, 1] s2 s5 := (KE.rf.s (l := [0, 1]) (k := 1) (f := fun _ => nI 0) (by decide)).tr (u3.wk (by decide))
        have kσ : KE (1 :: kR) σ (su s5 3 (fun _ => nI 0)) := (((ks0.wk (by decide)).tr (g6.wk (by decide))).tr (k25.wk (by decide))).s (by decide)
        have kτ : KE kT τ t' := (kτ5.wk (by decide)).tr (y5.wk (by decide))
        have pf : PF F σ (su s5 3 (fun _ => nI 0)) := ((PF.k ks0 (by decide) s02).tr g5).tr (PF.k (l := [0, 1, 3]) ((k25.wk (by decide)).s (by decide)) (by decide) (u4.trans rfl))
        have pm : PM F τ t' := (PM.k kτ5 (by decide)).tr y4
        have hf' : RF F (su s5 3 (fun _ => nI 0)) t' := hf.cut (Nat.le_refl _) pf pm u2 y2
        refine ⟨-nI 2, su s5 3 (fun _ => nI 0), t', ?_, by rw [em2]; exact y1, RR_read hp hh hv hb kσ kτ (Nat.le_refl _) hf' ?_ ?_ ?_⟩
        · rw [ec2, vm]
          simp (implicitDefEqProofs := false) (disch := omega) only [mX5_parse_43, s23, u1, ↓bnd_e, ↓ob_s, ob_s, su_1, su_2, sl_1, sl_2, ↓ck_n, ck_n, ck_Z0, ck_Z1, c_lt, c_le, c_eq, ng_1, m_ne, m_en, m_lt, m_le, m_gt, m_ge, n_add, n_mul, n_sub, n_sm, n_pm, n_0m, n_cl, Nat.reduceEqDiff, ↓reduceIte, nle_T, nle_F, nlt_T, nlt_F, neq_F, neq_T, if_true, if_false, true_and, and_true, Nat.mul_zero, Nat.zero_add, Nat.add_zero, Nat.reduceAdd, Nat.reduceMul, Nat.reduceSub, li_0, li_1, li_2, li_3, li_4, li_5, li_6, li_7, li_8, li_9, li_10, li_11, li_12, li_13, li_14, li_15, li_16, li_20, li_24, li_28, li_31, li_35, li_38, li_40, li_41, li_45, li_48, li_60, li_62, li_63, li_97, li_100, li_104, li_105, li_120, li_124, li_127, li_180, li_239, li_240, li_255, li_256, li_300, li_400, li_960, li_1000000]
        · show s5.1 1 0 = _
          rw [u3 1 (by decide)]; rfl
        · rw [y5 1 (by decide), et5]; rfl
        · rw [y3]; rfl
    · -- something stands behind it
      rw [e] at x1 x2
      obtain ⟨⟨q1, q2, q3, q4, q5, q6⟩, q7⟩ := x3
      have fl := fail_0 s23 q5
      obtain ⟨s5, u1, u2, u3, u4⟩ := forget (s := su (su s2 3 (fun _ => nI A2)) 1 (fun _ => nI 0)) (F := F) g2 g3 g4
      have k25 : KE [0, 1, 3] s2 s5 := ((KE.rf.s (l := [0, 1, 3]) (k := 3) (f := fun _ => nI A2) (by decide)).s (k := 1) (f := fun _ => nI 0) (by decide)).tr (u3.wk (by decide))
      have kσ : KE (1 :: kR) σ s5 := ((ks0.wk (by decide)).tr (g6.wk (by decide))).tr (k25.wk (by decide))
      have kτ8 : KE [0, 1, 2, 3, 11, 35, 36, 37] τ (su (su t2 2 (fun _ => nI A2)) 1 (fun _ => nI 0)) := (((kt0.wk (by decide)).tr (kt2.wk (by decide))).s (by decide)).s (by decide)
      have pf : PF F σ s5 := ((PF.k ks0 (by decide) s02).tr g5).tr (PF.k k25 (by decide) (u4.trans rfl))
      have pm : PM F τ (su (su t2 2 (fun _ => nI A2)) 1 (fun _ => nI 0)) := PM.k kτ8 (by decide)
      have hf' : RF F s5 (su (su t2 2 (fun _ => nI A2)) 1 (fun _ => nI 0)) := hf.cut (Nat.le_refl _) pf pm u2 (by rw [kτ8 5 (by decide)]; exact hf.1.2.2)
      refine ⟨mI, s5, su (su t2 2 (fun _ => nI A2)) 1 (fun _ => nI 0), ?_, ?_, RR_read hp hh hv hb kσ (kτ8.wk (by decide)) (Nat.le_refl _) hf' (by rw [u3 1 (by decide)]; rfl) rfl (by rw [u3 3 (by decide)]; rfl)⟩
      · rw [ec, e1', ob_s]
        dsimp only
        rw [s13, if_neg (by decide), x1, ob_s]
        dsimp only
        rw [if_neg (show ¬ nI b < 0 from nI_pos (by omega)), fl, ob_s]
        dsimp only
        simp (implicitDefEqProofs := false) (disch := omega) only [mX5_parse_43, u1, ↓bnd_e, ↓ob_s, ob_s, su_1, su_2, sl_1, sl_2, ↓ck_n, ck_n, ck_Z0, ck_Z1, c_lt, c_le, c_eq, ng_1, m_ne, m_en, m_lt, m_le, m_gt, m_ge, n_add, n_mul, n_sub, n_sm, n_pm, n_0m, n_cl, Nat.reduceEqDiff, ↓reduceIte, nle_T, nle_F, nlt_T, nlt_F, neq_F, neq_T, if_true, if_false, true_and, and_true, Nat.mul_zero, Nat.zero_add, Nat.add_zero, Nat.reduceAdd, Nat.reduceMul, Nat.reduceSub, li_0, li_1, li_2, li_3, li_4, li_5, li_6, li_7, li_8, li_9, li_10, li_11, li_12, li_13, li_14, li_15, li_16, li_20, li_24, li_28, li_31, li_35, li_38, li_40, li_41, li_45, li_48, li_60, li_62, li_63, li_97, li_100, li_104, li_105, li_120, li_124, li_127, li_180, li_239, li_240, li_255, li_256, li_300, li_400, li_960, li_1000000]
      · rw [em, e2', ob_s]
        dsimp only
        rw [z4, if_neg (show ¬ nI (P1 - 1) = -1 by rw [show (-1 : Int32) = mI from rfl, m_ne (by omega)]; exact fun h => h), x2, ob_s]
        dsimp only
        rw [if_neg (show ¬ nI b = -1 by rw [show (-1 : Int32) = mI from rfl, m_ne (by omega)]; exact fun h => h)]
        simp (implicitDefEqProofs := false) (disch := omega) only [mX8_read_39, q6, ↓bnd_e, ↓ob_s, ob_s, su_1, su_2, sl_1, sl_2, ↓ck_n, ck_n, ck_Z0, ck_Z1, c_lt, c_le, c_eq, ng_1, m_ne, m_en, m_lt, m_le, m_gt, m_ge, n_add, n_mul, n_sub, n_sm, n_pm, n_0m, n_cl, Nat.reduceEqDiff, ↓reduceIte, nle_T, nle_F, nlt_T, nlt_F, neq_F, neq_T, if_true, if_false, true_and, and_true, Nat.mul_zero, Nat.zero_add, Nat.add_zero, Nat.reduceAdd, Nat.reduceMul, Nat.reduceSub, li_0, li_1, li_2, li_3, li_4, li_5, li_6, li_7, li_8, li_9, li_10, li_11, li_12, li_13, li_14, li_15, li_16, li_20, li_24, li_28, li_31, li_35, li_38, li_40, li_41, li_45, li_48, li_60, li_62, li_63, li_97, li_100, li_104, li_105, li_120, li_124, li_127, li_180, li_239, li_240, li_255, li_256, li_300, li_400, li_960, li_1000000]
