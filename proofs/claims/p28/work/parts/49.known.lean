theorem ite_ex {α : Type} {c : Prop} [Decidable c] (a b : α) : ∃ t, (if c then some a else some b) = some t := by
  by_cases h : c
  · exact ⟨a, if_pos h⟩
  · exact ⟨b, if_neg h⟩
theorem ik_t (σ : St) (x : Int32) : mX1_isKnown σ x = some (nI 0) ∨ mX1_isKnown σ x = some (nI 1) := by
  unfold mX1_isKnown
  repeat' split
  all_goals first | exact Or.inl rfl | exact Or.inr rfl
theorem hp_t (σ : St) (s f g : Int32) : mX1_hasParts σ s f g = some (nI 0) ∨ mX1_hasParts σ s f g = some (nI 1) := by
  unfold mX1_hasParts
  rcases ik_t σ f with h | h <;> rcases ik_t σ g with h' | h' <;> rw [h, h'] <;> simp only [ob_s] <;> repeat' split
  all_goals first | exact Or.inl rfl | exact Or.inr rfl
theorem nb_t (σ : St) (a b c : Int32) : mX1_needsBrackets σ a b c = some (nI 0) ∨ mX1_needsBrackets σ a b c = some (nI 1) := by
  unfold mX1_needsBrackets
  repeat' split
  all_goals first | exact Or.inl rfl | exact Or.inr rfl
def lI (c : Int32) : Int32 := if c = nI 0 then nI 0 else nI 2
def cutI (x : Int32) : Int32 := if x < nI 1000000 then x else nI 1000000
/-- what is added: the changes of the class's rows -/
def AD (u u' : St) (F : Nat) (T : Nat → Int64) (l : List (Nat × Int32)) : Prop :=
  u'.1 0 0 = nI (F + 1) ∧ (∀ c, c ≠ 0 → (∀ v, (c, v) ∉ l) → u'.1 c = u.1 c) ∧ (∀ c v, (c, v) ∈ l → u'.1 c = upd (u.1 c) F v) ∧
  (∀ i, i < 4 * F → u'.2 i = u.2 i) ∧ ∀ v, v < 4 → u'.2 (4 * F + v) = T v
theorem x1_148 {σ u : St} {F : Nat} (hF : F < 240) (h0 : σ.1 0 0 = nI F) (h1 : u.1 0 0 = nI F) (hP : PF F σ u) {s one left two w1 w2 : Int32} {T : Nat → Int64}
    (hT : ∀ w, w < 4 → TW σ s one left two w = some (T w)) (hw1 : mX1_width σ left = some w1) (hw2 : mX1_width σ two = some w2) (l1 l2 : Int32) :
    ∃ u', mX1_add_148 u s one two (nI F) left l2 l1 = some u' ∧ AD u u' F T [(17, cutI (((nI 1 + w1) + w2) + (l1 + l2)))] := by
  have hG := GE_of (by omega) h0 h1 hP
  obtain ⟨u', a1, a2, a3, a4, a5⟩ := x1_loop hF h0 hT 4 0 NF (su u 17 (upd (u.1 17) F (cutI (((nI 1 + w1) + w2) + (l1 + l2))))) (by omega) (by decide) h1 (hP.s 17 F _ (by omega)) (fun v hv => absurd hv (by omega))
  refine ⟨u', ?_, by rw [a2], fun c hc hl => ?_, fun c v hcv => ?_, fun i hi => (a4 i hi).trans (hP.2 i hi).symm, a5⟩
  · rw [← a1]
    have e1 := (hG.2.2.2.1 left).trans hw1
    have e2 := (hG.2.2.2.1 two).trans hw2
    simp (disch := omega) only [mX1_add_148, cutI, e1, e2, bnd_e, ob_s, su_1, su_2, sl_1, sl_2, ck_n, ck_Z0, ck_Z1, c_lt, c_le, c_eq, ng_1, m_ne, m_en, m_lt, m_le, m_gt, m_ge, n_add, n_mul, n_sub, n_sm, n_pm, n_0m, n_cl, Nat.reduceEqDiff, reduceIte, if_pos, if_neg, if_true, if_false, true_and, and_true, Nat.mul_zero, Nat.zero_add, Nat.add_zero, Nat.reduceAdd, Nat.reduceMul, Nat.reduceSub, li_0, li_1, li_2, li_3, li_4, li_5, li_6, li_7, li_8, li_9, li_10, li_11, li_12, li_13, li_14, li_15, li_16, li_20, li_24, li_28, li_31, li_35, li_38, li_40, li_41, li_45, li_48, li_60, li_62, li_63, li_97, li_100, li_104, li_105, li_120, li_124, li_127, li_180, li_239, li_240, li_255, li_256, li_300, li_400, li_960, li_1000000]
    rfl
  · rw [a3 c hc, su_1, if_neg]
    intro e; subst e
    exact hl _ (List.mem_singleton.mpr rfl)
  · have := List.mem_singleton.mp hcv
    obtain ⟨rfl, rfl⟩ := Prod.mk.inj this
    rw [a3 17 (by omega), su_1, if_pos rfl]
theorem AD.cons {u v u' : St} {F : Nat} {T : Nat → Int64} {l : List (Nat × Int32)} {c : Nat} {x : Int32} (h : AD v u' F T l) (hc : c ≠ 0) (hl : ∀ y, (c, y) ∉ l)
    (e : v = su u c (upd (u.1 c) F x)) : AD u u' F T ((c, x) :: l) := by
  obtain ⟨a1, a2, a3, a4, a5⟩ := h
  subst e
  refine ⟨a1, fun d hd hm => ?_, fun d y hm => ?_, a4, a5⟩
  · rw [a2 d hd (fun y hy => hm y (List.mem_cons_of_mem _ hy)), su_1, if_neg]
    intro e; subst e
    exact hm x (List.mem_cons_self ..)
  · rcases List.mem_cons.mp hm with e | e
    · obtain ⟨rfl, rfl⟩ := Prod.mk.inj e
      rw [a2 d hc hl, su_1, if_pos rfl]
    · rw [a3 d y e, su_1, if_neg]
      intro e2; subst e2
      exact hl _ e
theorem x1_130 {σ u : St} {F : Nat} (hF : F < 240) (h0 : σ.1 0 0 = nI F) (h1 : u.1 0 0 = nI F) (hP : PF F σ u) {s one left two w1 w2 k2 c2 : Int32} {T : Nat → Int64}
    (hT : ∀ w, w < 4 → TW σ s one left two w = some (T w)) (hw1 : mX1_width σ left = some w1) (hw2 : mX1_width σ two = some w2) (l1 : Int32)
    (hk2 : mX1_sort σ two = some k2) (hc2 : mX1_needsBrackets σ s k2 (nI 1) = some c2) :
    ∃ u', mX1_add_130 u s one two (nI F) left l1 = some u' ∧ AD u u' F T [(17, cutI (((nI 1 + w1) + w2) + (l1 + lI c2)))] := by
  have hG := GE_of (by omega) h0 h1 hP
  obtain ⟨u', a1, a2⟩ := x1_148 hF h0 h1 hP hT hw1 hw2 l1 (lI c2)
  refine ⟨u', ?_, a2⟩
  rw [← a1]
  have e1 := (hG.1 two).trans hk2
  unfold mX1_add_130
  rw [e1, ob_s, x1_nb σ]
  have : mX1_needsBrackets σ s k2 1 = some c2 := hc2
  rw [this, ob_s]
  unfold lI
  by_cases hc : c2 = nI 0
  · rw [if_pos hc, if_pos (show c2 = 0 from hc)]; rfl
  · rw [if_neg hc, if_neg (show ¬ c2 = 0 from hc)]; rfl
theorem x1_84 {σ u : St} {F : Nat} (hF : F < 240) (h0 : σ.1 0 0 = nI F) (h1 : u.1 0 0 = nI F) (hP : PF F σ u) {s one left two w1 w2 k1 k2 c1 c2 z1 z2 : Int32} {T : Nat → Int64}
    (hT : ∀ w, w < 4 → TW σ s one left two w = some (T w)) (hw1 : mX1_width σ left = some w1) (hw2 : mX1_width σ two = some w2)
    (hk1 : mX1_sort σ left = some k1) (hc1 : mX1_needsBrackets σ s k1 (nI 0) = some c1) (hk2 : mX1_sort σ two = some k2) (hc2 : mX1_needsBrackets σ s k2 (nI 1) = some c2)
    (hz1 : mX1_size σ left = some z1) (hz2 : mX1_size σ two = some z2) (LET : Int32) :
    ∃ u', mX1_add_84 u s one two (nI F) left LET (nI F) = some u' ∧ AD u u' F T [(15, LET), (16, cutI ((nI 1 + z1) + z2)), (17, cutI (((nI 1 + w1) + w2) + (lI c1 + lI c2)))] := by
  obtain ⟨v, hv⟩ : ∃ v, v = su u 15 (upd (u.1 15) F LET) := ⟨_, rfl⟩
  obtain ⟨t, ht⟩ : ∃ t, t = su v 16 (upd (v.1 16) F (cutI ((nI 1 + z1) + z2))) := ⟨_, rfl⟩
  have hvP : PF F σ v := hv ▸ hP.s 15 F _ (by omega)
  have htP : PF F σ t := ht ▸ hvP.s 16 F _ (by omega)
  have hv0 : v.1 0 0 = nI F := by rw [hv]; exact h1
  have ht0 : t.1 0 0 = nI F := by rw [ht]; exact hv0
  have hGv := GE_of (by omega) h0 hv0 hvP
  have hGt := GE_of (by omega) h0 ht0 htP
  obtain ⟨u', a1, a2⟩ := x1_130 hF h0 ht0 htP hT hw1 hw2 (lI c1) hk2 hc2
  refine ⟨u', ?_, ?_⟩
  · rw [← a1]
    unfold mX1_add_84
    rw [ck_n _ (by omega) (by omega), bnd_e, n_cl (by omega), ← hv, (hGv.2.2.1 left).trans hz1, ob_s, (hGv.2.2.1 two).trans hz2, ob_s, ck_n _ (by omega) (by omega), bnd_e]
    have e : su v 16 (upd (v.1 16) F (if ((1 + z1) + z2) < (1000000 : Int32) then (1 + z1) + z2 else 1000000)) = t := by rw [ht]; rfl
    rw [e, (hGt.1 left).trans hk1, ob_s, x1_nb σ]
    have : mX1_needsBrackets σ s k1 0 = some c1 := hc1
    rw [this, ob_s]
    unfold lI
    by_cases hc : c1 = nI 0
    · rw [if_pos hc, if_pos (show c1 = 0 from hc)]; rfl
    · rw [if_neg hc, if_neg (show ¬ c1 = 0 from hc)]; rfl
  · exact (a2.cons (by omega) (by simp) ht).cons (by omega) (by simp) hv
theorem x1_add {σ : St} {F : Nat} (hF : F < 240) (h0 : σ.1 0 0 = nI F) {s one left two w1 w2 k1 k2 c1 c2 z1 z2 a b : Int32} {T : Nat → Int64}
    (hl : left = if s < nI 2 then mI else one)
    (hT : ∀ w, w < 4 → TW σ s one left two w = some (T w)) (hw1 : mX1_width σ left = some w1) (hw2 : mX1_width σ two = some w2)
    (hk1 : mX1_sort σ left = some k1) (hc1 : mX1_needsBrackets σ s k1 (nI 0) = some c1) (hk2 : mX1_sort σ two = some k2) (hc2 : mX1_needsBrackets σ s k2 (nI 1) = some c2)
    (hz1 : mX1_size σ left = some z1) (hz2 : mX1_size σ two = some z2) (ha : mX1_letters σ left = some a) (hb : mX1_letters σ two = some b) :
    ∃ u', mX1_add σ s one two = some u' ∧ AD σ u' F T [(12, s), (13, one), (14, two), (15, if s = nI 0 then (1 : Int32) <<< (one &&& 31) else a ||| b), (16, cutI ((nI 1 + z1) + z2)), (17, cutI (((nI 1 + w1) + w2) + (lI c1 + lI c2)))] := by
  obtain ⟨u1, hu1⟩ : ∃ v, v = su σ 12 (upd (σ.1 12) F s) := ⟨_, rfl⟩
  obtain ⟨u2, hu2⟩ : ∃ v, v = su u1 13 (upd (u1.1 13) F one) := ⟨_, rfl⟩
  obtain ⟨u3, hu3⟩ : ∃ v, v = su u2 14 (upd (u2.1 14) F two) := ⟨_, rfl⟩
  have P1 : PF F σ u1 := hu1 ▸ PF.rf.s 12 F _ (by omega)
  have P2 : PF F σ u2 := hu2 ▸ P1.s 13 F _ (by omega)
  have P3 : PF F σ u3 := hu3 ▸ P2.s 14 F _ (by omega)
  have e1 : u1.1 0 0 = nI F := by rw [hu1]; exact h0
  have e2 : u2.1 0 0 = nI F := by rw [hu2]; exact e1
  have e3 : u3.1 0 0 = nI F := by rw [hu3]; exact e2
  have hG := GE_of (by omega) h0 e3 P3
  obtain ⟨u', a1, a2⟩ := x1_84 hF h0 e3 P3 hT hw1 hw2 hk1 hc1 hk2 hc2 hz1 hz2 (if s = nI 0 then (1 : Int32) <<< (one &&& 31) else a ||| b)
  refine ⟨u', ?_, ((a2.cons (by omega) (by simp) hu3).cons (by omega) (by simp) hu2).cons (by omega) (by simp) hu1⟩
  rw [← a1]
  have e : mX1_add σ s one two = mX1_add_30 σ s one two (nI F) left := by
    rw [hl]
    by_cases hs : s < nI 2
    · simp (disch := omega) only [mX1_add, h0, hs, bnd_e, ob_s, su_1, su_2, sl_1, sl_2, ck_n, ck_Z0, ck_Z1, c_lt, c_le, c_eq, ng_1, m_ne, m_en, m_lt, m_le, m_gt, m_ge, n_add, n_mul, n_sub, n_sm, n_pm, n_0m, n_cl, Nat.reduceEqDiff, reduceIte, if_pos, if_neg, if_true, if_false, true_and, and_true, Nat.mul_zero, Nat.zero_add, Nat.add_zero, Nat.reduceAdd, Nat.reduceMul, Nat.reduceSub, li_0, li_1, li_2, li_3, li_4, li_5, li_6, li_7, li_8, li_9, li_10, li_11, li_12, li_13, li_14, li_15, li_16, li_20, li_24, li_28, li_31, li_35, li_38, li_40, li_41, li_45, li_48, li_60, li_62, li_63, li_97, li_100, li_104, li_105, li_120, li_124, li_127, li_180, li_239, li_240, li_255, li_256, li_300, li_400, li_960, li_1000000]
    · simp (disch := omega) only [mX1_add, h0, hs, bnd_e, ob_s, su_1, su_2, sl_1, sl_2, ck_n, ck_Z0, ck_Z1, c_lt, c_le, c_eq, ng_1, m_ne, m_en, m_lt, m_le, m_gt, m_ge, n_add, n_mul, n_sub, n_sm, n_pm, n_0m, n_cl, Nat.reduceEqDiff, reduceIte, if_pos, if_neg, if_true, if_false, true_and, and_true, Nat.mul_zero, Nat.zero_add, Nat.add_zero, Nat.reduceAdd, Nat.reduceMul, Nat.reduceSub, li_0, li_1, li_2, li_3, li_4, li_5, li_6, li_7, li_8, li_9, li_10, li_11, li_12, li_13, li_14, li_15, li_16, li_20, li_24, li_28, li_31, li_35, li_38, li_40, li_41, li_45, li_48, li_60, li_62, li_63, li_97, li_100, li_104, li_105, li_120, li_124, li_127, li_180, li_239, li_240, li_255, li_256, li_300, li_400, li_960, li_1000000]
  rw [e]
  unfold mX1_add_30
  rw [ck_n _ (by omega) (by omega), bnd_e, n_cl (by omega), ← hu1, ck_n _ (by omega) (by omega), bnd_e, ← hu2, ck_n _ (by omega) (by omega), bnd_e, ← hu3]
  by_cases hs : s = nI 0
  · rw [if_pos hs, if_pos (show s = 0 from hs)]
  · rw [if_neg hs, if_neg (show ¬ s = 0 from hs), (hG.2.1 left).trans ha, ob_s, (hG.2.1 two).trans hb, ob_s]
theorem TW_t {σ : St} {F : Nat} (hF : F ≤ 240) (h0 : σ.1 0 0 = nI F) (s one left two : Int32) : ∃ T : Nat → Int64, ∀ w, w < 4 → TW σ s one left two w = some (T w) := by
  have h : ∀ w, ∃ t : Int64, w < 4 → TW σ s one left two w = some t := by
    intro w
    by_cases hw : w < 4
    · unfold TW
      by_cases hs : s = nI 0
      · have : ∃ t, mX1_truthOfLetter σ one (nI w) = some t := by
          unfold mX1_truthOfLetter mX1_truthOfLetter_18
          rcases ix3 one 6 (by omega) with ⟨h, h'⟩ | ⟨h, h', _⟩ | ⟨j, hj, rfl⟩
          · simp (disch := omega) only [h, bnd_e, ob_s, su_1, su_2, sl_1, sl_2, ck_n, ck_Z0, ck_Z1, c_lt, c_le, c_eq, ng_1, m_ne, m_en, m_lt, m_le, m_gt, m_ge, n_add, n_mul, n_sub, n_sm, n_pm, n_0m, n_cl, Nat.reduceEqDiff, reduceIte, if_pos, if_neg, if_true, if_false, true_and, and_true, Nat.mul_zero, Nat.zero_add, Nat.add_zero, Nat.reduceAdd, Nat.reduceMul, Nat.reduceSub, li_0, li_1, li_2, li_3, li_4, li_5, li_6, li_7, li_8, li_9, li_10, li_11, li_12, li_13, li_14, li_15, li_16, li_20, li_24, li_28, li_31, li_35, li_38, li_40, li_41, li_45, li_48, li_60, li_62, li_63, li_97, li_100, li_104, li_105, li_120, li_124, li_127, li_180, li_239, li_240, li_255, li_256, li_300, li_400, li_960, li_1000000]; exact ite_ex _ _
          · simp (disch := omega) only [h, h', bnd_e, ob_s, su_1, su_2, sl_1, sl_2, ck_n, ck_Z0, ck_Z1, c_lt, c_le, c_eq, ng_1, m_ne, m_en, m_lt, m_le, m_gt, m_ge, n_add, n_mul, n_sub, n_sm, n_pm, n_0m, n_cl, Nat.reduceEqDiff, reduceIte, if_pos, if_neg, if_true, if_false, true_and, and_true, Nat.mul_zero, Nat.zero_add, Nat.add_zero, Nat.reduceAdd, Nat.reduceMul, Nat.reduceSub, li_0, li_1, li_2, li_3, li_4, li_5, li_6, li_7, li_8, li_9, li_10, li_11, li_12, li_13, li_14, li_15, li_16, li_20, li_24, li_28, li_31, li_35, li_38, li_40, li_41, li_45, li_48, li_60, li_62, li_63, li_97, li_100, li_104, li_105, li_120, li_124, li_127, li_180, li_239, li_240, li_255, li_256, li_300, li_400, li_960, li_1000000]; exact ite_ex _ _
          · simp (disch := omega) only [bnd_e, ob_s, su_1, su_2, sl_1, sl_2, ck_n, ck_Z0, ck_Z1, c_lt, c_le, c_eq, ng_1, m_ne, m_en, m_lt, m_le, m_gt, m_ge, n_add, n_mul, n_sub, n_sm, n_pm, n_0m, n_cl, Nat.reduceEqDiff, reduceIte, if_pos, if_neg, if_true, if_false, true_and, and_true, Nat.mul_zero, Nat.zero_add, Nat.add_zero, Nat.reduceAdd, Nat.reduceMul, Nat.reduceSub, li_0, li_1, li_2, li_3, li_4, li_5, li_6, li_7, li_8, li_9, li_10, li_11, li_12, li_13, li_14, li_15, li_16, li_20, li_24, li_28, li_31, li_35, li_38, li_40, li_41, li_45, li_48, li_60, li_62, li_63, li_97, li_100, li_104, li_105, li_120, li_124, li_127, li_180, li_239, li_240, li_255, li_256, li_300, li_400, li_960, li_1000000]; exact ⟨_, rfl⟩
        obtain ⟨t, ht⟩ := this
        exact ⟨t, fun _ => by rw [if_pos hs, ht]⟩
      · have t1 : ∃ t, mX1_truth σ left (nI w) = some t := by
          rcases g1_truth hF h0 left hw with ⟨_, _, _, h⟩ | h <;> exact ⟨_, h⟩
        have t2 : ∃ t, mX1_truth σ two (nI w) = some t := by
          rcases g1_truth hF h0 two hw with ⟨_, _, _, h⟩ | h <;> exact ⟨_, h⟩
        obtain ⟨t1, e1⟩ := t1
        obtain ⟨t2, e2⟩ := t2
        have : ∃ t, mX1_truthOfParts σ s t1 t2 = some t := by
          unfold mX1_truthOfParts
          repeat' split
          all_goals exact ⟨_, rfl⟩
        obtain ⟨t, ht⟩ := this
        exact ⟨t, fun _ => by rw [if_neg hs, e1, ob_s, e2, ob_s, ht]⟩
    · exact ⟨0, fun h => absurd h hw⟩
  exact ⟨fun w => Classical.choose (h w), fun w hw => Classical.choose_spec (h w) hw⟩
theorem AD.pf {σ u : St} {F : Nat} {T : Nat → Int64} {l : List (Nat × Int32)} (h : AD σ u F T l) : PF F σ u := by
  refine ⟨fun c j a b d => ?_, h.2.2.2.1⟩
  by_cases e : ∃ v, (c, v) ∈ l
  · obtain ⟨v, hv⟩ := e
    rw [h.2.2.1 c v hv, pk_un (by omega)]
  · rw [h.2.1 c (by omega) (fun v hv => e ⟨v, hv⟩)]
def kF : List Nat := [0, 12, 13, 14, 15, 16, 17]
/-- a number of the class, whatever is asked: nothing known is lost -/
theorem x1_num_t {σ : St} {F : Nat} (hF : F ≤ 240) (h0 : σ.1 0 0 = nI F) (s f g : Int32) : ∃ r σ' F', mX1_number σ s f g = some (r, σ') ∧ σ'.1 0 0 = nI F' ∧ F ≤ F' ∧ F' ≤ 240 ∧
    PF F σ σ' ∧ KE kF σ σ' ∧ (r = mI ∨ ∃ k, k < F' ∧ r = nI k) ∧ (mX1_hasParts σ s f g = some (nI 0) → r = mI) := by
  have key : ∀ one two, ∃ r σ' F', mX1_number_34 σ s one two = some (r, σ') ∧ σ'.1 0 0 = nI F' ∧ F ≤ F' ∧ F' ≤ 240 ∧ PF F σ σ' ∧ KE kF σ σ' ∧ (r = mI ∨ ∃ k, k < F' ∧ r = nI k) := by
    intro one two
    obtain ⟨r, hr, hc⟩ := find_t hF h0 s one two
    rcases hc with rfl | ⟨k, hk, rfl⟩
    · by_cases h240 : F < 240
      · obtain ⟨T, hT⟩ := TW_t hF h0 s one (if s < nI 2 then mI else one) two
        generalize hl : (if s < nI 2 then mI else one) = left at hT
        obtain ⟨w1, hw1⟩ : ∃ w, mX1_width σ left = some w := by rcases g1_width hF h0 left with ⟨_, _, _, h⟩ | h <;> exact ⟨_, h⟩
        obtain ⟨w2, hw2⟩ : ∃ w, mX1_width σ two = some w := by rcases g1_width hF h0 two with ⟨_, _, _, h⟩ | h <;> exact ⟨_, h⟩
        obtain ⟨k1, hk1⟩ : ∃ w, mX1_sort σ left = some w := by rcases g1_sort hF h0 left with ⟨_, _, _, h⟩ | h <;> exact ⟨_, h⟩
        obtain ⟨k2, hk2⟩ : ∃ w, mX1_sort σ two = some w := by rcases g1_sort hF h0 two with ⟨_, _, _, h⟩ | h <;> exact ⟨_, h⟩
        obtain ⟨z1, hz1⟩ : ∃ w, mX1_size σ left = some w := by rcases g1_size hF h0 left with ⟨_, _, _, h⟩ | h <;> exact ⟨_, h⟩
        obtain ⟨z2, hz2⟩ : ∃ w, mX1_size σ two = some w := by rcases g1_size hF h0 two with ⟨_, _, _, h⟩ | h <;> exact ⟨_, h⟩
        obtain ⟨a, ha⟩ : ∃ w, mX1_letters σ left = some w := by rcases g1_letters hF h0 left with ⟨_, _, _, h⟩ | h <;> exact ⟨_, h⟩
        obtain ⟨b, hb⟩ : ∃ w, mX1_letters σ two = some w := by rcases g1_letters hF h0 two with ⟨_, _, _, h⟩ | h <;> exact ⟨_, h⟩
        obtain ⟨c1, hc1⟩ : ∃ w, mX1_needsBrackets σ s k1 (nI 0) = some w := by rcases nb_t σ s k1 (nI 0) with h | h <;> exact ⟨_, h⟩
        obtain ⟨c2, hc2⟩ : ∃ w, mX1_needsBrackets σ s k2 (nI 1) = some w := by rcases nb_t σ s k2 (nI 1) with h | h <;> exact ⟨_, h⟩
        obtain ⟨u, e, hA⟩ := x1_add h240 h0 hl.symm hT hw1 hw2 hk1 hc1 hk2 hc2 hz1 hz2 ha hb
        refine ⟨nI F, u, F + 1, ?_, hA.1, by omega, by omega, hA.pf, fun j hj => hA.2.1 j (fun e => hj (by subst e; decide)) (fun v hv => hj ?_), Or.inr ⟨F, by omega, rfl⟩⟩
        · have e0 : nI (F + 1) - 1 = nI F := nI_pred F
          have hu := hA.1
          simp (disch := omega) only [mX1_number_34, hr, h0, e, hu, bnd_e, ob_s, su_1, su_2, sl_1, sl_2, ck_n, ck_Z0, ck_Z1, c_lt, c_le, c_eq, ng_1, m_ne, m_en, m_lt, m_le, m_gt, m_ge, n_add, n_mul, n_sub, n_sm, n_pm, n_0m, n_cl, Nat.reduceEqDiff, reduceIte, if_pos, if_neg, if_true, if_false, true_and, and_true, Nat.mul_zero, Nat.zero_add, Nat.add_zero, Nat.reduceAdd, Nat.reduceMul, Nat.reduceSub, li_0, li_1, li_2, li_3, li_4, li_5, li_6, li_7, li_8, li_9, li_10, li_11, li_12, li_13, li_14, li_15, li_16, li_20, li_24, li_28, li_31, li_35, li_38, li_40, li_41, li_45, li_48, li_60, li_62, li_63, li_97, li_100, li_104, li_105, li_120, li_124, li_127, li_180, li_239, li_240, li_255, li_256, li_300, li_400, li_960, li_1000000, Nat.add_sub_cancel]
        · simp only [List.mem_cons, Prod.mk.injEq, List.not_mem_nil, or_false] at hv
          rcases hv with h | h | h | h | h | h <;> (rw [h.1]; decide)
      · refine ⟨mI, σ, F, ?_, h0, by omega, hF, PF.rf, KE.rf, Or.inl rfl⟩
        simp (disch := omega) only [mX1_number_34, hr, h0, bnd_e, ob_s, su_1, su_2, sl_1, sl_2, ck_n, ck_Z0, ck_Z1, c_lt, c_le, c_eq, ng_1, m_ne, m_en, m_lt, m_le, m_gt, m_ge, n_add, n_mul, n_sub, n_sm, n_pm, n_0m, n_cl, Nat.reduceEqDiff, reduceIte, if_pos, if_neg, if_true, if_false, true_and, and_true, Nat.mul_zero, Nat.zero_add, Nat.add_zero, Nat.reduceAdd, Nat.reduceMul, Nat.reduceSub, li_0, li_1, li_2, li_3, li_4, li_5, li_6, li_7, li_8, li_9, li_10, li_11, li_12, li_13, li_14, li_15, li_16, li_20, li_24, li_28, li_31, li_35, li_38, li_40, li_41, li_45, li_48, li_60, li_62, li_63, li_97, li_100, li_104, li_105, li_120, li_124, li_127, li_180, li_239, li_240, li_255, li_256, li_300, li_400, li_960, li_1000000]
    · refine ⟨nI k, σ, F, ?_, h0, by omega, hF, PF.rf, KE.rf, Or.inr ⟨k, hk, rfl⟩⟩
      simp (disch := omega) only [mX1_number_34, hr, h0, bnd_e, ob_s, su_1, su_2, sl_1, sl_2, ck_n, ck_Z0, ck_Z1, c_lt, c_le, c_eq, ng_1, m_ne, m_en, m_lt, m_le, m_gt, m_ge, n_add, n_mul, n_sub, n_sm, n_pm, n_0m, n_cl, Nat.reduceEqDiff, reduceIte, if_pos, if_neg, if_true, if_false, true_and, and_true, Nat.mul_zero, Nat.zero_add, Nat.add_zero, Nat.reduceAdd, Nat.reduceMul, Nat.reduceSub, li_0, li_1, li_2, li_3, li_4, li_5, li_6, li_7, li_8, li_9, li_10, li_11, li_12, li_13, li_14, li_15, li_16, li_20, li_24, li_28, li_31, li_35, li_38, li_40, li_41, li_45, li_48, li_60, li_62, li_63, li_97, li_100, li_104, li_105, li_120, li_124, li_127, li_180, li_239, li_240, li_255, li_256, li_300, li_400, li_960, li_1000000]
  have hp := hp_t σ s f g
  rcases hp with hp | hp
  · refine ⟨mI, σ, F, ?_, h0, by omega, hF, PF.rf, KE.rf, Or.inl rfl, fun _ => rfl⟩
    simp (disch := omega) only [mX1_number, hp, bnd_e, ob_s, su_1, su_2, sl_1, sl_2, ck_n, ck_Z0, ck_Z1, c_lt, c_le, c_eq, ng_1, m_ne, m_en, m_lt, m_le, m_gt, m_ge, n_add, n_mul, n_sub, n_sm, n_pm, n_0m, n_cl, Nat.reduceEqDiff, reduceIte, if_pos, if_neg, if_true, if_false, true_and, and_true, Nat.mul_zero, Nat.zero_add, Nat.add_zero, Nat.reduceAdd, Nat.reduceMul, Nat.reduceSub, li_0, li_1, li_2, li_3, li_4, li_5, li_6, li_7, li_8, li_9, li_10, li_11, li_12, li_13, li_14, li_15, li_16, li_20, li_24, li_28, li_31, li_35, li_38, li_40, li_41, li_45, li_48, li_60, li_62, li_63, li_97, li_100, li_104, li_105, li_120, li_124, li_127, li_180, li_239, li_240, li_255, li_256, li_300, li_400, li_960, li_1000000]
  · have nv : mX1_hasParts σ s f g = some (nI 0) → False := by
      intro h; rw [hp] at h
      exact absurd (Option.some.inj h) (by decide)
    by_cases h1 : s = nI 1
    · by_cases h3 : s < nI 3
      · obtain ⟨r, σ', F', a1, a2, a3, a4, a5, a6, a7⟩ := key mI mI
        refine ⟨r, σ', F', ?_, a2, a3, a4, a5, a6, a7, fun h => (nv h).elim⟩
        subst h1
        rw [← a1]; simp (disch := omega) only [mX1_number, mX1_number_22, hp, bnd_e, ob_s, su_1, su_2, sl_1, sl_2, ck_n, ck_Z0, ck_Z1, c_lt, c_le, c_eq, ng_1, m_ne, m_en, m_lt, m_le, m_gt, m_ge, n_add, n_mul, n_sub, n_sm, n_pm, n_0m, n_cl, Nat.reduceEqDiff, reduceIte, if_pos, if_neg, if_true, if_false, true_and, and_true, Nat.mul_zero, Nat.zero_add, Nat.add_zero, Nat.reduceAdd, Nat.reduceMul, Nat.reduceSub, li_0, li_1, li_2, li_3, li_4, li_5, li_6, li_7, li_8, li_9, li_10, li_11, li_12, li_13, li_14, li_15, li_16, li_20, li_24, li_28, li_31, li_35, li_38, li_40, li_41, li_45, li_48, li_60, li_62, li_63, li_97, li_100, li_104, li_105, li_120, li_124, li_127, li_180, li_239, li_240, li_255, li_256, li_300, li_400, li_960, li_1000000]
      · exact absurd (by rw [h1]; decide) h3
    · by_cases h3 : s < nI 3
      · obtain ⟨r, σ', F', a1, a2, a3, a4, a5, a6, a7⟩ := key f mI
        refine ⟨r, σ', F', ?_, a2, a3, a4, a5, a6, a7, fun h => (nv h).elim⟩
        rw [← a1]; simp (disch := omega) only [mX1_number, mX1_number_22, hp, h1, h3, bnd_e, ob_s, su_1, su_2, sl_1, sl_2, ck_n, ck_Z0, ck_Z1, c_lt, c_le, c_eq, ng_1, m_ne, m_en, m_lt, m_le, m_gt, m_ge, n_add, n_mul, n_sub, n_sm, n_pm, n_0m, n_cl, Nat.reduceEqDiff, reduceIte, if_pos, if_neg, if_true, if_false, true_and, and_true, Nat.mul_zero, Nat.zero_add, Nat.add_zero, Nat.reduceAdd, Nat.reduceMul, Nat.reduceSub, li_0, li_1, li_2, li_3, li_4, li_5, li_6, li_7, li_8, li_9, li_10, li_11, li_12, li_13, li_14, li_15, li_16, li_20, li_24, li_28, li_31, li_35, li_38, li_40, li_41, li_45, li_48, li_60, li_62, li_63, li_97, li_100, li_104, li_105, li_120, li_124, li_127, li_180, li_239, li_240, li_255, li_256, li_300, li_400, li_960, li_1000000]
      · obtain ⟨r, σ', F', a1, a2, a3, a4, a5, a6, a7⟩ := key f g
        refine ⟨r, σ', F', ?_, a2, a3, a4, a5, a6, a7, fun h => (nv h).elim⟩
        rw [← a1]; simp (disch := omega) only [mX1_number, mX1_number_22, hp, h1, h3, bnd_e, ob_s, su_1, su_2, sl_1, sl_2, ck_n, ck_Z0, ck_Z1, c_lt, c_le, c_eq, ng_1, m_ne, m_en, m_lt, m_le, m_gt, m_ge, n_add, n_mul, n_sub, n_sm, n_pm, n_0m, n_cl, Nat.reduceEqDiff, reduceIte, if_pos, if_neg, if_true, if_false, true_and, and_true, Nat.mul_zero, Nat.zero_add, Nat.add_zero, Nat.reduceAdd, Nat.reduceMul, Nat.reduceSub, li_0, li_1, li_2, li_3, li_4, li_5, li_6, li_7, li_8, li_9, li_10, li_11, li_12, li_13, li_14, li_15, li_16, li_20, li_24, li_28, li_31, li_35, li_38, li_40, li_41, li_45, li_48, li_60, li_62, li_63, li_97, li_100, li_104, li_105, li_120, li_124, li_127, li_180, li_239, li_240, li_255, li_256, li_300, li_400, li_960, li_1000000]
