theorem WT_e (g : Nat → Nat → Int32) (j : Nat) : WT g j =
    if (g 15 j).toNatClampNeg = 0 then [nI (97 + (g 16 j).toNatClampNeg)] else if (g 15 j).toNatClampNeg = 1 then [nI 35]
    else if (g 15 j).toNatClampNeg = 2 then nI 45 :: br (decide (3 ≤ (g 15 (g 16 j).toNatClampNeg).toNatClampNeg)) (wr g j (g 16 j).toNatClampNeg)
    else br (decide ((if (g 15 j).toNatClampNeg = 5 then 5 else (g 15 j).toNatClampNeg + 1) ≤ (g 15 (g 16 j).toNatClampNeg).toNatClampNeg)) (wr g j (g 16 j).toNatClampNeg) ++ opb (g 15 j).toNatClampNeg :: br (decide ((if (g 15 j).toNatClampNeg = 5 then 6 else (g 15 j).toNatClampNeg) ≤ (g 15 (g 17 j).toNatClampNeg).toNatClampNeg)) (wr g j (g 17 j).toNatClampNeg) := rfl
theorem num_new {F s l p q : Nat} {σ τ : St} (h : RF F σ τ) (hF : F < 240) {x y : Int32} (ha : AX F s l p q x y) (hf1 : mX1_find σ (nI s) x y = some mI) (hf8 : mX8_find τ (nI s) x y = some mI)
    (hno : ∀ k, k < F → ¬ (τ.1 15 k = nI s ∧ τ.1 16 k = x ∧ τ.1 17 k = y)) :
    ∃ σ' τ', mX1_number_34 σ (nI s) x y = some (nI F, σ') ∧ mX8_known τ (nI s) x y = some (nI F, τ') ∧ RF (F + 1) σ' τ' ∧ PF F σ σ' ∧ PM F τ τ' ∧ KE kF σ σ' ∧ KE kM τ τ' := by
  have h0 := h.1.2.1
  have h5 := h.1.2.2
  have hs5 : s ≤ 5 := by rcases ha with ⟨e, _⟩ | ⟨e, _⟩ | ⟨e, _⟩ | ⟨_, e, _⟩ <;> omega
  have hcL : (nI s < nI 2) = (s < 2) := c_lt (by omega) (by omega)
  have hc0 : (nI s = nI 0) = (s = 0) := c_eq (by omega) (by omega)
  obtain ⟨T, hT⟩ := TW_t (by omega) h0 (nI s) x (if nI s < nI 2 then mI else x) y
  have hTB := TW_b (by omega) h0 ha hT
  obtain ⟨left, hl⟩ : ∃ v, v = (if nI s < nI 2 then mI else x) := ⟨_, rfl⟩
  rw [← hl] at hT
  obtain ⟨k1, z1, w1, a, hk1, hz1, hw1, ha1, hL⟩ : ∃ k1 z1 w1 a : Int32, mX1_sort σ left = some k1 ∧ mX1_size σ left = some z1 ∧ mX1_width σ left = some w1 ∧ mX1_letters σ left = some a ∧
      ((s < 2 ∧ k1 = mI ∧ z1 = nI 0 ∧ w1 = nI 0 ∧ a = nI 0) ∨ (2 ≤ s ∧ p < F ∧ x = nI p ∧ k1 = τ.1 15 p ∧ z1 = τ.1 19 p ∧ w1 = nI (min 1000000 (WT τ.1 p).length) ∧ a = τ.1 18 p)) := by
    by_cases h2 : s < 2
    · rw [hl, if_pos (hcL ▸ h2)]
      exact ⟨_, _, _, _, gm_sort σ, gm_size σ, gm_width σ, gm_letters σ, Or.inl ⟨h2, rfl, rfl, rfl, rfl⟩⟩
    · rw [hl, if_neg (hcL ▸ h2)]
      have hp : p < F ∧ x = nI p := by rcases ha with ⟨e, _⟩ | ⟨e, _⟩ | ⟨_, e, e2, _⟩ | ⟨_, _, e, _, e2, _⟩ <;> first | omega | exact ⟨e, e2⟩
      obtain ⟨hp, rfl⟩ := hp
      have hj := h.2.1 p hp
      exact ⟨_, _, _, _, x1_sort h0 h.le hp, gn_size h0 h.le hp, gn_width h0 h.le hp, gn_letters h0 h.le hp, Or.inr ⟨by omega, hp, rfl, hj.1.1, hj.1.2.2.2.2, hj.2.2.2.1, hj.1.2.2.2.1⟩⟩
  obtain ⟨k2, z2, w2, b, hk2, hz2, hw2, hb2, hR⟩ : ∃ k2 z2 w2 b : Int32, mX1_sort σ y = some k2 ∧ mX1_size σ y = some z2 ∧ mX1_width σ y = some w2 ∧ mX1_letters σ y = some b ∧
      ((s ≤ 2 ∧ y = mI ∧ k2 = mI ∧ z2 = nI 0 ∧ w2 = nI 0 ∧ b = nI 0) ∨ (3 ≤ s ∧ q < F ∧ y = nI q ∧ k2 = τ.1 15 q ∧ z2 = τ.1 19 q ∧ w2 = nI (min 1000000 (WT τ.1 q).length) ∧ b = τ.1 18 q)) := by
    by_cases h2 : s ≤ 2
    · have hy : y = mI := by rcases ha with ⟨_, _, _, e⟩ | ⟨_, _, e⟩ | ⟨_, _, _, e⟩ | ⟨e, _⟩ <;> first | exact e | omega
      subst hy
      exact ⟨_, _, _, _, gm_sort σ, gm_size σ, gm_width σ, gm_letters σ, Or.inl ⟨h2, rfl, rfl, rfl, rfl, rfl⟩⟩
    · have hp : q < F ∧ y = nI q := by rcases ha with ⟨e, _⟩ | ⟨e, _⟩ | ⟨e, _⟩ | ⟨_, _, _, e, _, e2⟩ <;> first | omega | exact ⟨e, e2⟩
      obtain ⟨hp, rfl⟩ := hp
      have hj := h.2.1 q hp
      exact ⟨_, _, _, _, x1_sort h0 h.le hp, gn_size h0 h.le hp, gn_width h0 h.le hp, gn_letters h0 h.le hp, Or.inr ⟨by omega, hp, rfl, hj.1.1, hj.1.2.2.2.2, hj.2.2.2.1, hj.1.2.2.2.1⟩⟩
  obtain ⟨c1, hc1, hC1⟩ : ∃ c : Bool, mX1_needsBrackets σ (nI s) k1 (nI 0) = some (zB c) ∧ ((s < 2 ∧ c = false) ∨ (s = 2 ∧ c = decide (3 ≤ (τ.1 15 p).toNatClampNeg)) ∨ (3 ≤ s ∧ c = decide ((if s = 5 then 5 else s + 1) ≤ (τ.1 15 p).toNatClampNeg))) := by
    rcases hL with ⟨e, rfl, _⟩ | ⟨e, hp, rfl, rfl, _⟩
    · exact ⟨false, nb_m σ s (by omega) 0 (by omega), Or.inl ⟨e, rfl⟩⟩
    · obtain ⟨sp, e1, e2, e3, _⟩ := h.st hp
      rw [e2, n_cl (by omega)]
      by_cases e5 : s = 2
      · subst e5; exact ⟨_, nb_2 σ sp e1, Or.inr (Or.inl ⟨rfl, rfl⟩)⟩
      · exact ⟨_, nb_l σ s sp (by omega) hs5 e1, Or.inr (Or.inr ⟨by omega, rfl⟩)⟩
  obtain ⟨c2, hc2, hC2⟩ : ∃ c : Bool, mX1_needsBrackets σ (nI s) k2 (nI 1) = some (zB c) ∧ ((s ≤ 2 ∧ c = false) ∨ (3 ≤ s ∧ c = decide ((if s = 5 then 6 else s) ≤ (τ.1 15 q).toNatClampNeg))) := by
    rcases hR with ⟨e, _, rfl, _⟩ | ⟨e, hp, rfl, rfl, _⟩
    · exact ⟨false, nb_m σ s (by omega) 1 (by omega), Or.inl ⟨e, rfl⟩⟩
    · obtain ⟨sp, e1, e2, e3, _⟩ := h.st hp
      rw [e2, n_cl (by omega)]
      exact ⟨_, nb_r σ s sp e hs5 e1, Or.inr ⟨e, rfl⟩⟩
  obtain ⟨u, eu, hA⟩ := x1_add hF h0 hl hT hw1 hw2 hk1 hc1 hk2 hc2 hz1 hz2 ha1 hb2
  obtain ⟨t, et, t5, tK, t15, t16, t17, t18, t19, tlo, thi⟩ := x8_new hF h5 h.tr ha hf8
  have hPF := hA.pf
  have hPM : PM F τ t := by
    refine ⟨fun c j c1 c2 hj => ?_, tlo⟩
    have hc : c = 15 ∨ c = 16 ∨ c = 17 ∨ c = 18 ∨ c = 19 := by omega
    rcases hc with rfl | rfl | rfl | rfl | rfl
    · rw [t15, pk_un (by omega)]
    · rw [t16, pk_un (by omega)]
    · rw [t17, pk_un (by omega)]
    · rw [t18, pk_un (by omega)]
    · rw [t19, pk_un (by omega)]
  have u12 : u.1 12 F = nI s := by rw [hA.2.2.1 12 (nI s) (by simp), pk_us]
  have u13 : u.1 13 F = x := by rw [hA.2.2.1 13 x (by simp), pk_us]
  have u14 : u.1 14 F = y := by rw [hA.2.2.1 14 y (by simp), pk_us]
  have u15 := congrFun (hA.2.2.1 15 (if nI s = nI 0 then (1 : Int32) <<< (x &&& 31) else a ||| b) (by simp)) F
  have u16 := congrFun (hA.2.2.1 16 (cutI ((nI 1 + z1) + z2)) (by simp)) F
  have u17 := congrFun (hA.2.2.1 17 (cutI (((nI 1 + w1) + w2) + (lI (zB c1) + lI (zB c2)))) (by simp)) F
  rw [pk_us] at u15 u16 u17
  have t15F : t.1 15 F = nI s := by rw [t15, pk_us]
  have t16F : t.1 16 F = x := by rw [t16, pk_us]
  have t17F : t.1 17 F = y := by rw [t17, pk_us]
  have t18F := congrFun t18 F
  have t19F := congrFun t19 F
  rw [pk_us] at t18F t19F
  have old : ∀ j, j < F → FJ u t j := FJ_c h.le h.2.1 hPF hPM
  have hWp : ∀ j, j < F → WT t.1 j = WT τ.1 j := fun j hj => wr_c h.le (fun c j a b d => hPM.1 c j a (by omega) d) h.ag _ j hj
  have hag : ∀ j, j < F + 1 → ∃ s, s ≤ 5 ∧ t.1 15 j = nI s ∧ AG j s (t.1 16 j) (t.1 17 j) := by
    intro j hj
    by_cases e : j < F
    · obtain ⟨s', e1, e2, e3, _⟩ := (old j e).2.1
      exact ⟨s', e1, e2, e3⟩
    · have : j = F := by omega
      subst this
      exact ⟨s, hs5, t15F, by rw [t16F, t17F]; exact ha.ag⟩
  have hWF : cutI (((nI 1 + w1) + w2) + (lI (zB c1) + lI (zB c2))) = nI (min 1000000 (WT t.1 F).length) := by
    rw [lI_z, lI_z]
    rcases ha with ⟨rfl, hl2, rfl, rfl⟩ | ⟨rfl, rfl, rfl⟩ | ⟨rfl, hp, rfl, rfl⟩ | ⟨h3, h5', hp, hq, rfl, rfl⟩
    · have e1 : WT t.1 F = [nI (97 + l)] := by simp (disch := omega) only [WT, wr, t15F, t16F, bnd_e, ob_s, su_1, su_2, sl_1, sl_2, ck_n, ck_Z0, ck_Z1, c_lt, c_le, c_eq, ng_1, m_ne, m_en, m_lt, m_le, m_gt, m_ge, n_add, n_mul, n_sub, n_sm, n_pm, n_0m, n_cl, Nat.reduceEqDiff, reduceIte, if_pos, if_neg, if_true, if_false, true_and, and_true, Nat.mul_zero, Nat.zero_add, Nat.add_zero, Nat.reduceAdd, Nat.reduceMul, Nat.reduceSub, li_0, li_1, li_2, li_3, li_4, li_5, li_6, li_7, li_8, li_9, li_10, li_11, li_12, li_13, li_14, li_15, li_16, li_20, li_24, li_28, li_31, li_35, li_38, li_40, li_41, li_45, li_48, li_60, li_62, li_63, li_97, li_100, li_104, li_105, li_120, li_124, li_127, li_180, li_239, li_240, li_255, li_256, li_300, li_400, li_960, li_1000000]
      have w1e : w1 = nI 0 := by rcases hL with ⟨_, _, _, e, _⟩ | ⟨e, _⟩ <;> first | exact e | omega
      have w2e : w2 = nI 0 := by rcases hR with ⟨_, _, _, _, e, _⟩ | ⟨e, _⟩ <;> first | exact e | omega
      have c1e : c1 = false := by rcases hC1 with ⟨_, e⟩ | ⟨e, _⟩ | ⟨e, _⟩ <;> first | exact e | omega
      have c2e : c2 = false := by rcases hC2 with ⟨_, e⟩ | ⟨e, _⟩ <;> first | exact e | omega
      rw [e1, w1e, w2e, c1e, c2e]; rfl
    · have e1 : WT t.1 F = [nI 35] := by simp (disch := omega) only [WT, wr, t15F, bnd_e, ob_s, su_1, su_2, sl_1, sl_2, ck_n, ck_Z0, ck_Z1, c_lt, c_le, c_eq, ng_1, m_ne, m_en, m_lt, m_le, m_gt, m_ge, n_add, n_mul, n_sub, n_sm, n_pm, n_0m, n_cl, Nat.reduceEqDiff, reduceIte, if_pos, if_neg, if_true, if_false, true_and, and_true, Nat.mul_zero, Nat.zero_add, Nat.add_zero, Nat.reduceAdd, Nat.reduceMul, Nat.reduceSub, li_0, li_1, li_2, li_3, li_4, li_5, li_6, li_7, li_8, li_9, li_10, li_11, li_12, li_13, li_14, li_15, li_16, li_20, li_24, li_28, li_31, li_35, li_38, li_40, li_41, li_45, li_48, li_60, li_62, li_63, li_97, li_100, li_104, li_105, li_120, li_124, li_127, li_180, li_239, li_240, li_255, li_256, li_300, li_400, li_960, li_1000000]
      have w1e : w1 = nI 0 := by rcases hL with ⟨_, _, _, e, _⟩ | ⟨e, _⟩ <;> first | exact e | omega
      have w2e : w2 = nI 0 := by rcases hR with ⟨_, _, _, _, e, _⟩ | ⟨e, _⟩ <;> first | exact e | omega
      have c1e : c1 = false := by rcases hC1 with ⟨_, e⟩ | ⟨e, _⟩ | ⟨e, _⟩ <;> first | exact e | omega
      have c2e : c2 = false := by rcases hC2 with ⟨_, e⟩ | ⟨e, _⟩ <;> first | exact e | omega
      rw [e1, w1e, w2e, c1e, c2e]; rfl
    · have w1e : w1 = nI (min 1000000 (WT τ.1 p).length) := by rcases hL with ⟨e, _⟩ | ⟨_, _, _, _, _, e, _⟩ <;> first | exact e | omega
      have w2e : w2 = nI 0 := by rcases hR with ⟨_, _, _, _, e, _⟩ | ⟨e, _⟩ <;> first | exact e | omega
      have c1e : c1 = decide (3 ≤ (τ.1 15 p).toNatClampNeg) := by rcases hC1 with ⟨e, _⟩ | ⟨_, e⟩ | ⟨e, _⟩ <;> first | exact e | omega
      have c2e : c2 = false := by rcases hC2 with ⟨_, e⟩ | ⟨e, _⟩ <;> first | exact e | omega
      have f1 := wr_f (F := F + 1) (by omega) hag F p (by omega) hp
      rw [hWp p hp] at f1
      have f15 := hPM.1 15 p (by omega) (by omega) hp
      have e1 : WT t.1 F = nI 45 :: br c1 (WT τ.1 p) := by
        rw [c1e, WT_e t.1 F]; simp (disch := omega) only [t15F, t16F, f1, f15, bnd_e, ob_s, su_1, su_2, sl_1, sl_2, ck_n, ck_Z0, ck_Z1, c_lt, c_le, c_eq, ng_1, m_ne, m_en, m_lt, m_le, m_gt, m_ge, n_add, n_mul, n_sub, n_sm, n_pm, n_0m, n_cl, Nat.reduceEqDiff, reduceIte, if_pos, if_neg, if_true, if_false, true_and, and_true, Nat.mul_zero, Nat.zero_add, Nat.add_zero, Nat.reduceAdd, Nat.reduceMul, Nat.reduceSub, li_0, li_1, li_2, li_3, li_4, li_5, li_6, li_7, li_8, li_9, li_10, li_11, li_12, li_13, li_14, li_15, li_16, li_20, li_24, li_28, li_31, li_35, li_38, li_40, li_41, li_45, li_48, li_60, li_62, li_63, li_97, li_100, li_104, li_105, li_120, li_124, li_127, li_180, li_239, li_240, li_255, li_256, li_300, li_400, li_960, li_1000000]
      rw [e1, w1e, w2e, c2e, n_add, n_add, n_add, n_add, cut_n (by cases c1 <;> simp <;> omega), List.length_cons, br_len]
      congr 1
      cases c1 <;> simp <;> omega
    · have w1e : w1 = nI (min 1000000 (WT τ.1 p).length) := by rcases hL with ⟨e, _⟩ | ⟨_, _, _, _, _, e, _⟩ <;> first | exact e | omega
      have w2e : w2 = nI (min 1000000 (WT τ.1 q).length) := by rcases hR with ⟨e, _⟩ | ⟨_, _, _, _, _, e, _⟩ <;> first | exact e | omega
      have c1e : c1 = decide ((if s = 5 then 5 else s + 1) ≤ (τ.1 15 p).toNatClampNeg) := by rcases hC1 with ⟨e, _⟩ | ⟨e, _⟩ | ⟨_, e⟩ <;> first | exact e | omega
      have c2e : c2 = decide ((if s = 5 then 6 else s) ≤ (τ.1 15 q).toNatClampNeg) := by rcases hC2 with ⟨e, _⟩ | ⟨_, e⟩ <;> first | exact e | omega
      have f1 := wr_f (F := F + 1) (by omega) hag F p (by omega) hp
      have f2 := wr_f (F := F + 1) (by omega) hag F q (by omega) hq
      rw [hWp p hp] at f1
      rw [hWp q hq] at f2
      have f15 := hPM.1 15 p (by omega) (by omega) hp
      have g15 := hPM.1 15 q (by omega) (by omega) hq
      have e1 : WT t.1 F = br c1 (WT τ.1 p) ++ opb s :: br c2 (WT τ.1 q) := by
        rw [c1e, c2e, WT_e t.1 F]; simp (disch := omega) only [t15F, t16F, t17F, f1, f15, f2, g15, bnd_e, ob_s, su_1, su_2, sl_1, sl_2, ck_n, ck_Z0, ck_Z1, c_lt, c_le, c_eq, ng_1, m_ne, m_en, m_lt, m_le, m_gt, m_ge, n_add, n_mul, n_sub, n_sm, n_pm, n_0m, n_cl, Nat.reduceEqDiff, reduceIte, if_pos, if_neg, if_true, if_false, true_and, and_true, Nat.mul_zero, Nat.zero_add, Nat.add_zero, Nat.reduceAdd, Nat.reduceMul, Nat.reduceSub, li_0, li_1, li_2, li_3, li_4, li_5, li_6, li_7, li_8, li_9, li_10, li_11, li_12, li_13, li_14, li_15, li_16, li_20, li_24, li_28, li_31, li_35, li_38, li_40, li_41, li_45, li_48, li_60, li_62, li_63, li_97, li_100, li_104, li_105, li_120, li_124, li_127, li_180, li_239, li_240, li_255, li_256, li_300, li_400, li_960, li_1000000]
      rw [e1, w1e, w2e, n_add, n_add, n_add, n_add, cut_n (by cases c1 <;> cases c2 <;> simp <;> omega), List.length_append, List.length_cons, br_len, br_len]
      congr 1
      cases c1 <;> cases c2 <;> simp <;> omega
  have newF : FJ u t F := by
    refine ⟨⟨u12.trans t15F.symm, u13.trans t16F.symm, u14.trans t17F.symm, ?_, ?_⟩, ⟨s, hs5, t15F, by rw [t16F, t17F]; exact ha.ag, fun e => ?_, fun e => ?_, fun e => ?_, fun e => ?_⟩, ?_, u17.trans hWF, fun k hk => ?_⟩
    · rw [u15, t18F]
      rcases ha with ⟨rfl, hl2, rfl, rfl⟩ | ⟨rfl, rfl, rfl⟩ | ⟨rfl, hp, rfl, rfl⟩ | ⟨h3, h5', hp, hq, rfl, rfl⟩
      · rw [if_pos rfl, if_pos rfl]
      · have a0 : a = nI 0 := by rcases hL with ⟨_, _, _, _, e⟩ | ⟨e, _⟩ <;> first | exact e | omega
        have b0 : b = nI 0 := by rcases hR with ⟨_, _, _, _, _, e⟩ | ⟨e, _⟩ <;> first | exact e | omega
        rw [if_neg (by decide), if_neg (by decide), if_pos rfl, a0, b0]; rfl
      · have a0 : a = τ.1 18 p := by rcases hL with ⟨e, _⟩ | ⟨_, _, _, _, _, _, e⟩ <;> first | exact e | omega
        have b0 : b = nI 0 := by rcases hR with ⟨_, _, _, _, _, e⟩ | ⟨e, _⟩ <;> first | exact e | omega
        rw [if_neg (by decide), if_neg (by decide), if_neg (by decide), if_pos rfl, a0, b0]
      · have a0 : a = τ.1 18 p := by rcases hL with ⟨e, _⟩ | ⟨_, _, _, _, _, _, e⟩ <;> first | exact e | omega
        have b0 : b = τ.1 18 q := by rcases hR with ⟨e, _⟩ | ⟨_, _, _, _, _, _, e⟩ <;> first | exact e | omega
        rw [if_neg (by rw [hc0]; omega), if_neg (by omega), if_neg (by omega), if_neg (by omega), a0, b0]
    · rw [u16, t19F]
      by_cases h2 : s < 2
      · have a0 : z1 = nI 0 := by rcases hL with ⟨_, _, e, _⟩ | ⟨e, _⟩ <;> first | exact e | omega
        have b0 : z2 = nI 0 := by rcases hR with ⟨_, _, _, e, _⟩ | ⟨e, _⟩ <;> first | exact e | omega
        rw [if_pos h2, a0, b0]; rfl
      · have a0 : z1 = τ.1 19 p := by rcases hL with ⟨e, _⟩ | ⟨_, _, _, _, e, _⟩ <;> first | exact e | omega
        by_cases e2 : s = 2
        · have b0 : z2 = nI 0 := by rcases hR with ⟨_, _, _, e, _⟩ | ⟨e, _⟩ <;> first | exact e | omega
          rw [if_neg h2, if_pos e2, a0, b0]
        · have b0 : z2 = τ.1 19 q := by rcases hR with ⟨e, _⟩ | ⟨_, _, _, _, e, _⟩ <;> first | exact e | omega
          rw [if_neg h2, if_neg e2, a0, b0]
    · rw [t18F, t16F, if_pos e]
    · rw [t18F, if_neg (by omega), if_pos e]
    · have hx : p < F ∧ x = nI p := by rcases ha with ⟨e', _⟩ | ⟨e', _⟩ | ⟨_, e', e2, _⟩ | ⟨e', _⟩ <;> first | omega | exact ⟨e', e2⟩
      rw [t18F, t16F, hx.2, n_cl (by omega), if_neg (by omega), if_neg (by omega), if_pos e, hPM.1 18 p (by omega) (by omega) hx.1]
    · have hx : p < F ∧ q < F ∧ x = nI p ∧ y = nI q := by rcases ha with ⟨e', _⟩ | ⟨e', _⟩ | ⟨e', _⟩ | ⟨_, _, e1, e2, e3, e4⟩ <;> first | omega | exact ⟨e1, e2, e3, e4⟩
      rw [t18F, t16F, t17F, hx.2.2.1, hx.2.2.2, n_cl (by omega), n_cl (by omega), if_neg (by omega), if_neg (by omega), if_neg (by omega), hPM.1 18 p (by omega) (by omega) hx.1, hPM.1 18 q (by omega) (by omega) hx.2.1]
    · rw [t19F]
      by_cases h2 : s < 2
      · exact ⟨1, by omega, by omega, by rw [if_pos h2]⟩
      · have hp : p < F := by rcases ha with ⟨e', _⟩ | ⟨e', _⟩ | ⟨_, e', _⟩ | ⟨_, _, e', _⟩ <;> first | omega | exact e'
        obtain ⟨z, b1, b2, b3, _⟩ := h.sz hp
        by_cases e2 : s = 2
        · rw [if_neg h2, if_pos e2, b3, n_add, n_add, cut_n (by omega)]
          exact ⟨_, by omega, by omega, rfl⟩
        · have hq : q < F := by rcases ha with ⟨e', _⟩ | ⟨e', _⟩ | ⟨e', _⟩ | ⟨_, _, _, e', _⟩ <;> first | omega | exact e'
          obtain ⟨z', d1, d2, d3, _⟩ := h.sz hq
          rw [if_neg h2, if_neg e2, b3, d3, n_add, n_add, cut_n (by omega)]
          exact ⟨_, by omega, by omega, rfl⟩
    · rw [thi k hk, hA.2.2.2.2 _ (by omega), hTB k hk]; rfl
  refine ⟨u, t, ?_, et, ⟨⟨by omega, hA.1, t5⟩, fun j hj => ?_, ?_⟩, hPF, hPM, fun j hj => hA.2.1 j (fun e => hj (by subst e; decide)) (fun v hv => hj ?_), tK⟩
  · have e0 : nI (F + 1) - 1 = nI F := nI_pred F
    have hu := hA.1
    simp (disch := omega) only [mX1_number_34, hf1, h0, eu, hu, bnd_e, ob_s, su_1, su_2, sl_1, sl_2, ck_n, ck_Z0, ck_Z1, c_lt, c_le, c_eq, ng_1, m_ne, m_en, m_lt, m_le, m_gt, m_ge, n_add, n_mul, n_sub, n_sm, n_pm, n_0m, n_cl, Nat.reduceEqDiff, reduceIte, if_pos, if_neg, if_true, if_false, true_and, and_true, Nat.mul_zero, Nat.zero_add, Nat.add_zero, Nat.reduceAdd, Nat.reduceMul, Nat.reduceSub, li_0, li_1, li_2, li_3, li_4, li_5, li_6, li_7, li_8, li_9, li_10, li_11, li_12, li_13, li_14, li_15, li_16, li_20, li_24, li_28, li_31, li_35, li_38, li_40, li_41, li_45, li_48, li_60, li_62, li_63, li_97, li_100, li_104, li_105, li_120, li_124, li_127, li_180, li_239, li_240, li_255, li_256, li_300, li_400, li_960, li_1000000, Nat.add_sub_cancel]
  · by_cases e : j < F
    · exact old j e
    · have : j = F := by omega
      subst this; exact newF
  · intro i j hi hj e1 e2 e3
    have hPk : ∀ k, k < F → t.1 15 k = τ.1 15 k ∧ t.1 16 k = τ.1 16 k ∧ t.1 17 k = τ.1 17 k := fun k hk => ⟨hPM.1 15 k (by omega) (by omega) hk, hPM.1 16 k (by omega) (by omega) hk, hPM.1 17 k (by omega) (by omega) hk⟩
    by_cases hi' : i < F
    · by_cases hj' : j < F
      · rw [(hPk i hi').1, (hPk j hj').1] at e1
        rw [(hPk i hi').2.1, (hPk j hj').2.1] at e2
        rw [(hPk i hi').2.2, (hPk j hj').2.2] at e3
        exact h.2.2 i j hi' hj' e1 e2 e3
      · have : j = F := by omega
        subst this
        rw [(hPk i hi').1, t15F] at e1
        rw [(hPk i hi').2.1, t16F] at e2
        rw [(hPk i hi').2.2, t17F] at e3
        exact (hno i hi' ⟨e1, e2, e3⟩).elim
    · have : i = F := by omega
      subst this
      by_cases hj' : j < i
      · rw [(hPk j hj').1, t15F] at e1
        rw [(hPk j hj').2.1, t16F] at e2
        rw [(hPk j hj').2.2, t17F] at e3
        exact (hno j hj' ⟨e1.symm, e2.symm, e3.symm⟩).elim
      · omega
  · simp only [List.mem_cons, Prod.mk.injEq, List.not_mem_nil, or_false] at hv
    rcases hv with e | e | e | e | e | e <;> (rw [e.1]; decide)
/-- a number, asked for on both sides -/
theorem num_rel {F s : Nat} {σ τ : St} (h : RF F σ τ) {x y f g : Int32} (ha : AG F s x y) (hc : CG s x y f g) :
    ∃ r σ' τ' F', mX1_number σ (nI s) f g = some (r, σ') ∧ mX8_known τ (nI s) x y = some (r, τ') ∧ RF F' σ' τ' ∧ F ≤ F' ∧ PF F σ σ' ∧ PM F τ τ' ∧ KE kF σ σ' ∧ KE kM τ τ' ∧ (r = mI ∨ ∃ k, k < F' ∧ r = nI k) := by
  obtain ⟨l, p, q, ha⟩ := ha.ax
  have hF := h.le
  have h0 := h.1.2.1
  have h5 := h.1.2.2
  rw [num_34 h ha hc]
  obtain ⟨r, e1, e8, hr⟩ := find_r hF h0 h5 h.f3 (nI s) x y
  rcases hr with ⟨rfl, hno⟩ | ⟨k, hk, rfl, _⟩
  · by_cases h240 : F < 240
    · obtain ⟨σ', τ', a1, a2, a3, a4, a5, a6, a7⟩ := num_new h h240 ha e1 e8 hno
      exact ⟨nI F, σ', τ', F + 1, a1, a2, a3, by omega, a4, a5, a6, a7, Or.inr ⟨F, by omega, rfl⟩⟩
    · have e : F = 240 := by omega
      subst e
      refine ⟨mI, σ, τ, 240, ?_, ?_, h, by omega, PF.rf, PM.rf, KE.rf, KE.rf, Or.inl rfl⟩
      · simp (disch := omega) only [mX1_number_34, e1, h0, bnd_e, ob_s, su_1, su_2, sl_1, sl_2, ck_n, ck_Z0, ck_Z1, c_lt, c_le, c_eq, ng_1, m_ne, m_en, m_lt, m_le, m_gt, m_ge, n_add, n_mul, n_sub, n_sm, n_pm, n_0m, n_cl, Nat.reduceEqDiff, reduceIte, if_pos, if_neg, if_true, if_false, true_and, and_true, Nat.mul_zero, Nat.zero_add, Nat.add_zero, Nat.reduceAdd, Nat.reduceMul, Nat.reduceSub, li_0, li_1, li_2, li_3, li_4, li_5, li_6, li_7, li_8, li_9, li_10, li_11, li_12, li_13, li_14, li_15, li_16, li_20, li_24, li_28, li_31, li_35, li_38, li_40, li_41, li_45, li_48, li_60, li_62, li_63, li_97, li_100, li_104, li_105, li_120, li_124, li_127, li_180, li_239, li_240, li_255, li_256, li_300, li_400, li_960, li_1000000]
      · simp (disch := omega) only [mX8_known, e8, h5, bnd_e, ob_s, su_1, su_2, sl_1, sl_2, ck_n, ck_Z0, ck_Z1, c_lt, c_le, c_eq, ng_1, m_ne, m_en, m_lt, m_le, m_gt, m_ge, n_add, n_mul, n_sub, n_sm, n_pm, n_0m, n_cl, Nat.reduceEqDiff, reduceIte, if_pos, if_neg, if_true, if_false, true_and, and_true, Nat.mul_zero, Nat.zero_add, Nat.add_zero, Nat.reduceAdd, Nat.reduceMul, Nat.reduceSub, li_0, li_1, li_2, li_3, li_4, li_5, li_6, li_7, li_8, li_9, li_10, li_11, li_12, li_13, li_14, li_15, li_16, li_20, li_24, li_28, li_31, li_35, li_38, li_40, li_41, li_45, li_48, li_60, li_62, li_63, li_97, li_100, li_104, li_105, li_120, li_124, li_127, li_180, li_239, li_240, li_255, li_256, li_300, li_400, li_960, li_1000000]
  · refine ⟨nI k, σ, τ, F, ?_, ?_, h, by omega, PF.rf, PM.rf, KE.rf, KE.rf, Or.inr ⟨k, hk, rfl⟩⟩
    · simp (disch := omega) only [mX1_number_34, e1, h0, bnd_e, ob_s, su_1, su_2, sl_1, sl_2, ck_n, ck_Z0, ck_Z1, c_lt, c_le, c_eq, ng_1, m_ne, m_en, m_lt, m_le, m_gt, m_ge, n_add, n_mul, n_sub, n_sm, n_pm, n_0m, n_cl, Nat.reduceEqDiff, reduceIte, if_pos, if_neg, if_true, if_false, true_and, and_true, Nat.mul_zero, Nat.zero_add, Nat.add_zero, Nat.reduceAdd, Nat.reduceMul, Nat.reduceSub, li_0, li_1, li_2, li_3, li_4, li_5, li_6, li_7, li_8, li_9, li_10, li_11, li_12, li_13, li_14, li_15, li_16, li_20, li_24, li_28, li_31, li_35, li_38, li_40, li_41, li_45, li_48, li_60, li_62, li_63, li_97, li_100, li_104, li_105, li_120, li_124, li_127, li_180, li_239, li_240, li_255, li_256, li_300, li_400, li_960, li_1000000]
    · simp (disch := omega) only [mX8_known, e8, h5, bnd_e, ob_s, su_1, su_2, sl_1, sl_2, ck_n, ck_Z0, ck_Z1, c_lt, c_le, c_eq, ng_1, m_ne, m_en, m_lt, m_le, m_gt, m_ge, n_add, n_mul, n_sub, n_sm, n_pm, n_0m, n_cl, Nat.reduceEqDiff, reduceIte, if_pos, if_neg, if_true, if_false, true_and, and_true, Nat.mul_zero, Nat.zero_add, Nat.add_zero, Nat.reduceAdd, Nat.reduceMul, Nat.reduceSub, li_0, li_1, li_2, li_3, li_4, li_5, li_6, li_7, li_8, li_9, li_10, li_11, li_12, li_13, li_14, li_15, li_16, li_20, li_24, li_28, li_31, li_35, li_38, li_40, li_41, li_45, li_48, li_60, li_62, li_63, li_97, li_100, li_104, li_105, li_120, li_124, li_127, li_180, li_239, li_240, li_255, li_256, li_300, li_400, li_960, li_1000000]
