theorem SUC.bin {N A P so A1 P1 A1' A2 P2 : Nat} {s t s1 t1 s1' t1' s2 t2 : St} {nums nums1 nums2 : Nat → Int32} {v1 w1 v2 w2 : Int32} (h3 : 3 ≤ so) (h5 : so ≤ 5) (Lh : SUC N A P s t nums A1 P1 nums1 v1 s1 w1 t1)
    (ks : KE [2] s1 s1') (k2 : s1'.2 = s1.2) (kt : KE [3] t1 t1') (hA : A1 < A1') (Rh : SUC N A1' P1 s1' t1' nums1 A2 P2 nums2 v2 s2 w2 t2) :
    ∃ r s3 t3 nums3, mX1_number s2 (nI so) v1 v2 = some (r, s3) ∧ mX8_part t2 (nI so) w1 w2 = some (nI P2, t3) ∧ SUC N A P s t nums A2 (P2 + 1) nums3 r s3 (nI P2) t3 := by
  obtain ⟨⟨a1, a2, a3, a4, a5⟩, b, c, d, e, f, g⟩ := Lh
  obtain ⟨⟨a1', a2', a3', a4', a5'⟩, b', c', d', e', f', g'⟩ := Rh
  have hPA1 := b.2.2.2.2
  have hA2 := b'.1.1.1
  have hN := b'.1.1.2.1
  obtain ⟨r, s3, t3, n1, n2, n3, n4, n5, n6, n7, n8, n9⟩ := part_rel (so := so) (nums := nums2) (x := w1) (y := w2) (x' := v1) (y' := v2) b' (by omega) h5 (Or.inr (Or.inr (Or.inr ⟨h3, h5, P1 - 1, P2 - 1, by omega, by omega, a4, a4'⟩))) (fun h => by omega)
    (fun _ => by rw [a4, n_cl (by omega), (e' (P1 - 1) (by omega)).2.2.2]; exact a5) (fun _ => by rw [a4', n_cl (by omega)]; exact a5')
  have low : ∀ j, j < P1 → t3.1 35 j = t1.1 35 j ∧ t3.1 36 j = t1.1 36 j ∧ t3.1 37 j = t1.1 37 j ∧ upd nums2 P2 r j = nums1 j := fun j hj => by
    obtain ⟨y1, y2, y3⟩ := n6 j (by omega)
    obtain ⟨z1, z2, z3, z4⟩ := e' j hj
    exact ⟨by rw [y1, z1, kt 35 (by decide)], by rw [y2, z2, kt 36 (by decide)], by rw [y3, z3, kt 37 (by decide)], by rw [pk_un (by omega), z4]⟩
  refine ⟨r, s3, t3, upd nums2 P2 r, n1, n2, ⟨by omega, by omega, by omega, by rw [Nat.add_sub_cancel], by rw [Nat.add_sub_cancel, pk_us]⟩, n3, c.tr ((b.gr ks k2).tr (c'.tr n4)), d.tr ((kt.wk (by decide)).tr (d'.tr n5)), fun j hj => ?_, ?_, fun hk => ?_⟩
  · obtain ⟨y1, y2, y3, y4⟩ := low j (by omega)
    obtain ⟨z1, z2, z3, z4⟩ := e j hj
    exact ⟨y1.trans z1, y2.trans z2, y3.trans z3, y4.trans z4⟩
  · have C1 := f.c (g' := t3.1) (nums' := upd nums2 P2 r) _ _ _ (by omega) (fun j hj => low j (by omega))
    have C2 := f'.c (g' := t3.1) (nums' := upd nums2 P2 r) _ _ _ (by omega) (fun j hj => by
      obtain ⟨y1, y2, y3⟩ := n6 j (by omega)
      exact ⟨y1, y2, y3, by rw [pk_un (by omega)]⟩)
    have C2' := C2.pre (ks.wk (by decide)) k2
    have q1 : P + (P1 - P) = P1 := by omega
    have q2 : P + ((P1 - P) + (P2 - P1)) = P2 := by omega
    have q3 : P2 + 1 - P = (P1 - P) + (P2 - P1) + 1 := by omega
    have C12 := C1.app (m := P2 - P1) _ _ _ (by rw [q1]; exact C2')
    rw [q3]
    exact C12.app (m := 1) _ _ _ (by rw [q2]; exact n7)
  · rw [Nat.add_sub_cancel, pk_us]
    obtain ⟨k, k1, k2', k3⟩ := hk
    by_cases e1 : k = P2
    · rw [e1, pk_us] at k3; exact k3
    · by_cases e2 : k < P1
      · rw [(low k e2).2.2.2] at k3
        exact n8 (by omega) (by rw [a5]; exact g ⟨k, k1, e2, k3⟩)
      · rw [pk_un e1] at k3
        exact n9 h3 (by rw [a5']; exact g' ⟨k, by omega, by omega, k3⟩)
theorem SUC.neg {N A P A1 A2 P2 : Nat} {s t s1 t1 s2 t2 : St} {nums nums2 : Nat → Int32} {v2 w2 : Int32} (h0 : PRE N A P s t) (ks : KE [2] s s1) (k2 : s1.2 = s.2) (kt : KE [3] t t1) (hA : A < A1) (Rh : SUC N A1 P s1 t1 nums A2 P2 nums2 v2 s2 w2 t2) (y' : Int32) :
    ∃ r s3 t3 nums3, mX1_number s2 (nI 2) v2 y' = some (r, s3) ∧ mX8_part t2 (nI 2) w2 mI = some (nI P2, t3) ∧ SUC N A P s t nums A2 (P2 + 1) nums3 r s3 (nI P2) t3 := by
  obtain ⟨⟨a1', a2', a3', a4', a5'⟩, b', c', d', e', f', g'⟩ := Rh
  have hPA := h0.2.2.2.2
  have hA2 := b'.1.1.1
  have hN := b'.1.1.2.1
  obtain ⟨r, s3, t3, n1, n2, n3, n4, n5, n6, n7, n8, n9⟩ := part_rel (so := 2) (nums := nums2) (x := w2) (y := mI) (x' := v2) (y' := y') b' (by omega) (by omega) (Or.inr (Or.inr (Or.inl ⟨rfl, P2 - 1, by omega, a4', rfl⟩))) (fun h => by omega)
    (fun _ => by rw [a4', n_cl (by omega)]; exact a5') (fun h => by omega)
  refine ⟨r, s3, t3, upd nums2 P2 r, n1, n2, ⟨by omega, by omega, by omega, by rw [Nat.add_sub_cancel], by rw [Nat.add_sub_cancel, pk_us]⟩, n3, (h0.gr ks k2).tr (c'.tr n4), (kt.wk (by decide)).tr (d'.tr n5), fun j hj => ?_, ?_, fun hk => ?_⟩
  · obtain ⟨y1, y2, y3⟩ := n6 j (by omega)
    obtain ⟨z1, z2, z3, z4⟩ := e' j hj
    exact ⟨by rw [y1, z1, kt 35 (by decide)], by rw [y2, z2, kt 36 (by decide)], by rw [y3, z3, kt 37 (by decide)], by rw [pk_un (by omega), z4]⟩
  · have C2 := f'.c (g' := t3.1) (nums' := upd nums2 P2 r) _ _ _ (by omega) (fun j hj => by
      obtain ⟨y1, y2, y3⟩ := n6 j (by omega)
      exact ⟨y1, y2, y3, by rw [pk_un (by omega)]⟩)
    have C2' := C2.pre (ks.wk (by decide)) k2
    have q2 : P + (P2 - P) = P2 := by omega
    have q3 : P2 + 1 - P = (P2 - P) + 1 := by omega
    rw [q3]
    exact C2'.app (m := 1) _ _ _ (by rw [q2]; exact n7)
  · rw [Nat.add_sub_cancel, pk_us]
    obtain ⟨k, k1, k2', k3⟩ := hk
    by_cases e1 : k = P2
    · rw [e1, pk_us] at k3; exact k3
    · rw [pk_un e1] at k3
      exact n8 (by omega) (by rw [a5']; exact g' ⟨k, by omega, by omega, k3⟩)
theorem SUC.leaf {N A P A1 so : Nat} {s t s1 t1 : St} {nums : Nat → Int32} {x y x' y' : Int32} (hso : so ≤ 1) (h0 : PRE N A P s t) (ks : KE [2] s s1) (k2 : s1.2 = s.2) (kt : KE [3] t t1) (hts : TS N A1 s1 t1) (hA : A < A1) (ag : AG P so x y) (hx : so = 0 → x' = x) :
    ∃ r s3 t3 nums3, mX1_number s1 (nI so) x' y' = some (r, s3) ∧ mX8_part t1 (nI so) x y = some (nI P, t3) ∧ SUC N A P s t nums A1 (P + 1) nums3 r s3 (nI P) t3 := by
  have b' := h0.mv ks kt hts (by omega)
  have hPA := h0.2.2.2.2
  have hA2 := b'.1.1.1
  have hN := b'.1.1.2.1
  obtain ⟨r, s3, t3, n1, n2, n3, n4, n5, n6, n7, n8, n9⟩ := part_rel (so := so) (nums := nums) (x := x) (y := y) (x' := x') (y' := y') b' (by omega) (by omega) ag hx (fun h => by omega) (fun h => by omega)
  refine ⟨r, s3, t3, upd nums P r, n1, n2, ⟨by omega, by omega, by omega, by rw [Nat.add_sub_cancel], by rw [Nat.add_sub_cancel, pk_us]⟩, n3, (h0.gr ks k2).tr n4, (kt.wk (by decide)).tr n5, fun j hj => ?_, ?_, fun hk => ?_⟩
  · obtain ⟨y1, y2, y3⟩ := n6 j (by omega)
    exact ⟨by rw [y1, kt 35 (by decide)], by rw [y2, kt 36 (by decide)], by rw [y3, kt 37 (by decide)], by rw [pk_un (by omega)]⟩
  · have q3 : P + 1 - P = 1 := by omega
    rw [q3]
    exact n7.pre (ks.wk (by decide)) k2
  · rw [Nat.add_sub_cancel, pk_us]
    obtain ⟨k, k1, k2', k3⟩ := hk
    have : k = P := by omega
    rw [this, pk_us] at k3; exact k3
theorem ERR.num {s t s' t' : St} {w : Int32} (h : ERR s t s' w t') (a b c : Int32) : ∃ r s'', mX1_number s' a b c = some (r, s'') ∧ ERR s t s'' w t' := by
  obtain ⟨h1, ⟨E, hE, e1, e2⟩, hg, hk⟩ := h
  obtain ⟨F, F', g1, g2, g3, g4, g5, g6⟩ := hg
  obtain ⟨r, s'', F'', n1, n2, n3, n4, n5, n6, n7, n8⟩ := x1_num_t g4 g2 a b c
  exact ⟨r, s'', n1, h1, ⟨E, hE, by rw [n6 3 (by decide)]; exact e1, e2⟩, ⟨F, F'', g1, n2, by omega, n4, g5.tr (n5.le g3), g6.tr (n6.wk (by decide))⟩, hk⟩
theorem ERR.tk {s t s' t' : St} {w : Int32} (h : ERR s t s' w t') (c : Int32) : mX5_takes s' c = some (0, s') := by
  obtain ⟨h1, ⟨E, hE, e1, e2⟩, _⟩ := h
  exact takes_err hE e1 c
theorem ERR.fl {s t s' t' : St} {w : Int32} (h : ERR s t s' w t') : mX5_fail s' = some (mI, s') := by
  obtain ⟨h1, ⟨E, hE, e1, e2⟩, _⟩ := h
  exact fail_err hE e1
/-- an error, here -/
theorem ERR.here {N A P A1 : Nat} {s t s1 t1 : St} (h0 : PRE N A P s t) (hg : GR s s1) (kt : KE kP t t1) (hts : TS N A1 s1 t1) (h3 : s1.1 3 0 = mI) : ∃ s2, mX5_fail s1 = some (mI, s2) ∧ ERR s t s2 mI t1 := by
  obtain ⟨⟨y1, y2, y3, y4, y5, y6⟩, y7⟩ := hts
  refine ⟨su s1 3 (fun _ => nI A1), fail_0 h3 y5, rfl, ⟨A1, by omega, rfl, y6⟩, hg.tr ?_, kt⟩
  obtain ⟨F, F', g1, g2, g3, g4, g5, g6⟩ := hg
  exact GR.k g4 g2 (KE.rf.s (l := [3]) (by decide)) (by decide) rfl
theorem SIM.e {N A P : Nat} {s t s' t' : St} {nums : Nat → Int32} {cr mr : Option (Int32 × St)} {v w : Int32} (h : ERR s t s' w t') (e1 : cr = some (v, s')) (e2 : mr = some (w, t')) : SIM N A P s t nums cr mr := ⟨v, s', w, t', e1, e2, Or.inl h⟩
theorem SIM.s {N A P A' P' : Nat} {s t s' t' : St} {nums nums' : Nat → Int32} {cr mr : Option (Int32 × St)} {v w : Int32} (h : SUC N A P s t nums A' P' nums' v s' w t') (e1 : cr = some (v, s')) (e2 : mr = some (w, t')) : SIM N A P s t nums cr mr := ⟨v, s', w, t', e1, e2, Or.inr ⟨A', P', nums', h⟩⟩
/-- what the reference does where no letter stands -/
def pRt (f_X8_form f_X8_plain : St → Int32 → Option (Int32 × St)) (s3 : St) (p1 : Int32) : Option (Int32 × St) :=
(mX8_takes s3 35).bind fun ⟨r8, s10⟩ =>
if r8 = 0 then (
(mX8_takes s10 45).bind fun ⟨r12, s14⟩ =>
if r12 = 0 then (
(mX8_takes s14 40).bind fun ⟨r16, s18⟩ =>
if r16 = 0 then (
some ((-1), s18))
else (
(f_X8_form s18 (p1 + 1)).bind fun ⟨r20, s22⟩ =>
if r20 = (-1) then (
some ((-1), s22))
else (
(mX8_takes s22 41).bind fun ⟨r24, s26⟩ =>
if r24 = 0 then (
some ((-1), s26))
else (
some (r20, s26)))))
else (
(f_X8_plain s14 (p1 + 1)).bind fun ⟨r28, s30⟩ =>
if r28 = (-1) then (
some ((-1), s30))
else (
(mX8_part s30 2 r28 (-1)).bind fun ⟨r32, s34⟩ =>
some (r32, s34))))
else (
(mX8_part s10 1 (-1) (-1)).bind fun ⟨r35, s37⟩ =>
some (r35, s37))
theorem chr_v {N A : Nat} {s t : St} (h : TS N A s t) : (A = N ∧ chr N A t = mI) ∨ ∃ b, A < N ∧ b < 256 ∧ chr N A t = nI b := by
  unfold chr
  by_cases e : A = N
  · exact Or.inl ⟨e, if_pos e⟩
  · obtain ⟨b, b1, b2, _⟩ := h.2 A
    exact Or.inr ⟨b, by have := h.1.1; omega, b1, by rw [if_neg e]; exact b2⟩
theorem sim_plain {d : Nat} (hd : d ≤ 10) {fB fF fP : St → Int32 → Option (Int32 × St)} {gF gP : St → Int32 → Option (Int32 × St)} {gR : St → Int32 → Int32 → Option (Int32 × St)} (hF : SIMF (d + 1) fF gF) (hP : SIMF (d + 1) fP gP) : SIMF d (bX5_plain fB fF fP) (bX8_plain gF gP gR) := by
  intro N A P s t nums h
  obtain ⟨A0, s0, t0, x1, x2, x3, x4, x5, x6, x7, x8, x9⟩ := next_rel h.1
  have h0 := h.mv x4 x5 x3 x7
  have s3 : s0.1 3 0 = mI := h0.2.1
  have hPA := h.2.2.2.2
  obtain ⟨⟨y1, y2, y3, y4, y5, y6⟩, y7⟩ := x3
  have x3 : TS N A0 s0 t0 := ⟨⟨y1, y2, y3, y4, y5, y6⟩, y7⟩
  by_cases hl : ∃ b, 97 ≤ b ∧ b ≤ 104 ∧ chr N A0 t0 = nI b
  · obtain ⟨b, b1, b2, b3⟩ := hl
    have hAN : A0 < N := by
      rcases chr_v x3 with ⟨_, e⟩ | ⟨_, e, _⟩
      · rw [b3, m_ne (by omega)] at e; exact e.elim
      · exact e
    obtain ⟨r, s2, t2, nums2, n1, n2, S⟩ := SUC.leaf (so := 0) (nums := nums) (x := nI (b - 97)) (y := mI) (x' := nI (b - 97)) (y' := mI) (s1 := su s0 2 (fun _ => nI (A0 + 1))) (t1 := su t0 3 (fun _ => nI (A0 + 1))) (A1 := A0 + 1) (by omega) h (x4.s (by decide)) x6 (x5.s (by decide)) ⟨⟨by omega, y2, y3, y4, rfl, rfl⟩, y7⟩ (by omega) (Or.inl ⟨rfl, b - 97, by omega, rfl, rfl⟩) (fun _ => rfl)
    refine SIM.s S ?_ ?_
    · simp (implicitDefEqProofs := false) (disch := omega) only [bX5_plain, x1, b3, s3, y5, n1, ↓bnd_e, ↓ob_s, ob_s, su_1, su_2, sl_1, sl_2, ↓ck_n, ck_n, ck_Z0, ck_Z1, c_lt, c_le, c_eq, ng_1, m_ne, m_en, m_lt, m_le, m_gt, m_ge, n_add, n_mul, n_sub, n_sm, n_pm, n_0m, n_cl, Nat.reduceEqDiff, ↓reduceIte, nle_T, nle_F, nlt_T, nlt_F, neq_F, neq_T, if_true, if_false, true_and, and_true, Nat.mul_zero, Nat.zero_add, Nat.add_zero, Nat.reduceAdd, Nat.reduceMul, Nat.reduceSub, li_0, li_1, li_2, li_3, li_4, li_5, li_6, li_7, li_8, li_9, li_10, li_11, li_12, li_13, li_14, li_15, li_16, li_20, li_24, li_28, li_31, li_35, li_38, li_40, li_41, li_45, li_48, li_60, li_62, li_63, li_97, li_100, li_104, li_105, li_120, li_124, li_127, li_180, li_239, li_240, li_255, li_256, li_300, li_400, li_960, li_1000000]
    · simp (implicitDefEqProofs := false) (disch := omega) only [bX8_plain, x2, b3, y6, mX8_isIn, n2, ↓bnd_e, ↓ob_s, ob_s, su_1, su_2, sl_1, sl_2, ↓ck_n, ck_n, ck_Z0, ck_Z1, c_lt, c_le, c_eq, ng_1, m_ne, m_en, m_lt, m_le, m_gt, m_ge, n_add, n_mul, n_sub, n_sm, n_pm, n_0m, n_cl, Nat.reduceEqDiff, ↓reduceIte, nle_T, nle_F, nlt_T, nlt_F, neq_F, neq_T, if_true, if_false, true_and, and_true, Nat.mul_zero, Nat.zero_add, Nat.add_zero, Nat.reduceAdd, Nat.reduceMul, Nat.reduceSub, li_0, li_1, li_2, li_3, li_4, li_5, li_6, li_7, li_8, li_9, li_10, li_11, li_12, li_13, li_14, li_15, li_16, li_20, li_24, li_28, li_31, li_35, li_38, li_40, li_41, li_45, li_48, li_60, li_62, li_63, li_97, li_100, li_104, li_105, li_120, li_124, li_127, li_180, li_239, li_240, li_255, li_256, li_300, li_400, li_960, li_1000000]
  · have c59 : bX5_plain fB fF fP s (nI d) = mX5_plain_59 fB fF fP s0 (nI d) := by
      rcases chr_v x3 with ⟨_, e⟩ | ⟨b, hb1, hb, e⟩
      · simp (implicitDefEqProofs := false) (disch := omega) only [bX5_plain, x1, e, s3, ↓bnd_e, ↓ob_s, ob_s, su_1, su_2, sl_1, sl_2, ↓ck_n, ck_n, ck_Z0, ck_Z1, c_lt, c_le, c_eq, ng_1, m_ne, m_en, m_lt, m_le, m_gt, m_ge, n_add, n_mul, n_sub, n_sm, n_pm, n_0m, n_cl, Nat.reduceEqDiff, ↓reduceIte, nle_T, nle_F, nlt_T, nlt_F, neq_F, neq_T, if_true, if_false, true_and, and_true, Nat.mul_zero, Nat.zero_add, Nat.add_zero, Nat.reduceAdd, Nat.reduceMul, Nat.reduceSub, li_0, li_1, li_2, li_3, li_4, li_5, li_6, li_7, li_8, li_9, li_10, li_11, li_12, li_13, li_14, li_15, li_16, li_20, li_24, li_28, li_31, li_35, li_38, li_40, li_41, li_45, li_48, li_60, li_62, li_63, li_97, li_100, li_104, li_105, li_120, li_124, li_127, li_180, li_239, li_240, li_255, li_256, li_300, li_400, li_960, li_1000000]
      · by_cases hb7 : b < 97
        · simp (implicitDefEqProofs := false) (disch := omega) only [bX5_plain, x1, e, s3, ↓bnd_e, ↓ob_s, ob_s, su_1, su_2, sl_1, sl_2, ↓ck_n, ck_n, ck_Z0, ck_Z1, c_lt, c_le, c_eq, ng_1, m_ne, m_en, m_lt, m_le, m_gt, m_ge, n_add, n_mul, n_sub, n_sm, n_pm, n_0m, n_cl, Nat.reduceEqDiff, ↓reduceIte, nle_T, nle_F, nlt_T, nlt_F, neq_F, neq_T, if_true, if_false, true_and, and_true, Nat.mul_zero, Nat.zero_add, Nat.add_zero, Nat.reduceAdd, Nat.reduceMul, Nat.reduceSub, li_0, li_1, li_2, li_3, li_4, li_5, li_6, li_7, li_8, li_9, li_10, li_11, li_12, li_13, li_14, li_15, li_16, li_20, li_24, li_28, li_31, li_35, li_38, li_40, li_41, li_45, li_48, li_60, li_62, li_63, li_97, li_100, li_104, li_105, li_120, li_124, li_127, li_180, li_239, li_240, li_255, li_256, li_300, li_400, li_960, li_1000000]
        · have hb5 : 105 ≤ b := by
            by_cases hb4 : b ≤ 104
            · exact (hl ⟨b, by omega, hb4, e⟩).elim
            · omega
          simp (implicitDefEqProofs := false) (disch := omega) only [bX5_plain, x1, e, s3, ↓bnd_e, ↓ob_s, ob_s, su_1, su_2, sl_1, sl_2, ↓ck_n, ck_n, ck_Z0, ck_Z1, c_lt, c_le, c_eq, ng_1, m_ne, m_en, m_lt, m_le, m_gt, m_ge, n_add, n_mul, n_sub, n_sm, n_pm, n_0m, n_cl, Nat.reduceEqDiff, ↓reduceIte, nle_T, nle_F, nlt_T, nlt_F, neq_F, neq_T, if_true, if_false, true_and, and_true, Nat.mul_zero, Nat.zero_add, Nat.add_zero, Nat.reduceAdd, Nat.reduceMul, Nat.reduceSub, li_0, li_1, li_2, li_3, li_4, li_5, li_6, li_7, li_8, li_9, li_10, li_11, li_12, li_13, li_14, li_15, li_16, li_20, li_24, li_28, li_31, li_35, li_38, li_40, li_41, li_45, li_48, li_60, li_62, li_63, li_97, li_100, li_104, li_105, li_120, li_124, li_127, li_180, li_239, li_240, li_255, li_256, li_300, li_400, li_960, li_1000000]
    have isin : mX8_isIn t0 (chr N A0 t0) (nI 97) (nI 104) = some (nI 0) := by
      rcases chr_v x3 with ⟨_, e⟩ | ⟨b, hb1, hb, e⟩
      · rw [e]; rfl
      · rw [e]
        by_cases hb7 : b < 97
        · simp (implicitDefEqProofs := false) (disch := omega) only [mX8_isIn, ↓bnd_e, ↓ob_s, ob_s, su_1, su_2, sl_1, sl_2, ↓ck_n, ck_n, ck_Z0, ck_Z1, c_lt, c_le, c_eq, ng_1, m_ne, m_en, m_lt, m_le, m_gt, m_ge, n_add, n_mul, n_sub, n_sm, n_pm, n_0m, n_cl, Nat.reduceEqDiff, ↓reduceIte, nle_T, nle_F, nlt_T, nlt_F, neq_F, neq_T, if_true, if_false, true_and, and_true, Nat.mul_zero, Nat.zero_add, Nat.add_zero, Nat.reduceAdd, Nat.reduceMul, Nat.reduceSub, li_0, li_1, li_2, li_3, li_4, li_5, li_6, li_7, li_8, li_9, li_10, li_11, li_12, li_13, li_14, li_15, li_16, li_20, li_24, li_28, li_31, li_35, li_38, li_40, li_41, li_45, li_48, li_60, li_62, li_63, li_97, li_100, li_104, li_105, li_120, li_124, li_127, li_180, li_239, li_240, li_255, li_256, li_300, li_400, li_960, li_1000000]
        · have hb5 : 105 ≤ b := by
            by_cases hb4 : b ≤ 104
            · exact (hl ⟨b, by omega, hb4, e⟩).elim
            · omega
          simp (implicitDefEqProofs := false) (disch := omega) only [mX8_isIn, ↓bnd_e, ↓ob_s, ob_s, su_1, su_2, sl_1, sl_2, ↓ck_n, ck_n, ck_Z0, ck_Z1, c_lt, c_le, c_eq, ng_1, m_ne, m_en, m_lt, m_le, m_gt, m_ge, n_add, n_mul, n_sub, n_sm, n_pm, n_0m, n_cl, Nat.reduceEqDiff, ↓reduceIte, nle_T, nle_F, nlt_T, nlt_F, neq_F, neq_T, if_true, if_false, true_and, and_true, Nat.mul_zero, Nat.zero_add, Nat.add_zero, Nat.reduceAdd, Nat.reduceMul, Nat.reduceSub, li_0, li_1, li_2, li_3, li_4, li_5, li_6, li_7, li_8, li_9, li_10, li_11, li_12, li_13, li_14, li_15, li_16, li_20, li_24, li_28, li_31, li_35, li_38, li_40, li_41, li_45, li_48, li_60, li_62, li_63, li_97, li_100, li_104, li_105, li_120, li_124, li_127, li_180, li_239, li_240, li_255, li_256, li_300, li_400, li_960, li_1000000]
    have m59 : bX8_plain gF gP gR t (nI d) = pRt gF gP t0 (nI d) := by
      unfold bX8_plain
      rw [x2, ob_s]
      dsimp only
      rw [if_pos (by rw [show (10 : Int32) = nI 10 from rfl, c_le (by omega) (by omega)]; exact hd), show (97 : Int32) = nI 97 from rfl, show (104 : Int32) = nI 104 from rfl, isin, ob_s, if_pos (by decide)]
      rfl
    rw [c59, m59]
    obtain ⟨q1, A1, s1, t1, u1, u2, u3, u4, u5, u6, u7, u8⟩ := takes_rel x3 s3 (c := 35) (by omega)
    have ks1 : KE [2] s s1 := x4.tr u4
    have k21 : s1.2 = s.2 := u6.trans x6
    have kt1 : KE [3] t t1 := x5.tr u5
    cases q1
    · rw [zB_0] at u1 u2
      have s13 : s1.1 3 0 = mI := by rw [u4 3 (by decide)]; exact s3
      obtain ⟨q2, A2, s2, t2, p1, p2, p3, p4, p5, p6, p7, p8⟩ := takes_rel u3 s13 (c := 45) (by omega)
      have ks2 : KE [2] s s2 := ks1.tr p4
      have k22 : s2.2 = s.2 := p6.trans k21
      have kt2 : KE [3] t t2 := kt1.tr p5
      cases q2
      · rw [zB_0] at p1 p2
        have s23 : s2.1 3 0 = mI := by rw [p4 3 (by decide)]; exact s13
        obtain ⟨q3, A3, s3', t3, r1, r2, r3, r4, r5, r6, r7, r8⟩ := takes_rel p3 s23 (c := 40) (by omega)
        have ks3 : KE [2] s s3' := ks2.tr r4
        have k23 : s3'.2 = s.2 := r6.trans k22
        have kt3 : KE [3] t t3 := kt2.tr r5
        have s33 : s3'.1 3 0 = mI := by rw [r4 3 (by decide)]; exact s23
        cases q3
        · rw [zB_0] at r1 r2
          obtain ⟨sE, f1, f2⟩ := ERR.here h (h.gr ks3 k23) (kt3.wk (by decide)) r3 s33
          refine SIM.e f2 (v := mI) ?_ ?_
          · simp (implicitDefEqProofs := false) (disch := omega) only [mX5_plain_59, u1, p1, r1, f1, ↓bnd_e, ↓ob_s, ob_s, su_1, su_2, sl_1, sl_2, ↓ck_n, ck_n, ck_Z0, ck_Z1, c_lt, c_le, c_eq, ng_1, m_ne, m_en, m_lt, m_le, m_gt, m_ge, n_add, n_mul, n_sub, n_sm, n_pm, n_0m, n_cl, Nat.reduceEqDiff, ↓reduceIte, nle_T, nle_F, nlt_T, nlt_F, neq_F, neq_T, if_true, if_false, true_and, and_true, Nat.mul_zero, Nat.zero_add, Nat.add_zero, Nat.reduceAdd, Nat.reduceMul, Nat.reduceSub, li_0, li_1, li_2, li_3, li_4, li_5, li_6, li_7, li_8, li_9, li_10, li_11, li_12, li_13, li_14, li_15, li_16, li_20, li_24, li_28, li_31, li_35, li_38, li_40, li_41, li_45, li_48, li_60, li_62, li_63, li_97, li_100, li_104, li_105, li_120, li_124, li_127, li_180, li_239, li_240, li_255, li_256, li_300, li_400, li_960, li_1000000]
          · simp (implicitDefEqProofs := false) (disch := omega) only [pRt, u2, p2, r2, ↓bnd_e, ↓ob_s, ob_s, su_1, su_2, sl_1, sl_2, ↓ck_n, ck_n, ck_Z0, ck_Z1, c_lt, c_le, c_eq, ng_1, m_ne, m_en, m_lt, m_le, m_gt, m_ge, n_add, n_mul, n_sub, n_sm, n_pm, n_0m, n_cl, Nat.reduceEqDiff, ↓reduceIte, nle_T, nle_F, nlt_T, nlt_F, neq_F, neq_T, if_true, if_false, true_and, and_true, Nat.mul_zero, Nat.zero_add, Nat.add_zero, Nat.reduceAdd, Nat.reduceMul, Nat.reduceSub, li_0, li_1, li_2, li_3, li_4, li_5, li_6, li_7, li_8, li_9, li_10, li_11, li_12, li_13, li_14, li_15, li_16, li_20, li_24, li_28, li_31, li_35, li_38, li_40, li_41, li_45, li_48, li_60, li_62, li_63, li_97, li_100, li_104, li_105, li_120, li_124, li_127, li_180, li_239, li_240, li_255, li_256, li_300, li_400, li_960, li_1000000]
        · rw [zB_1] at r1 r2
          have A3lt := r8 rfl
          have hpre := h.mv ks3 kt3 r3 (by omega)
          obtain ⟨v, sv, w, tw, e1, e2, hE | ⟨A', P', nums', hS⟩⟩ := hF N A3 P s3' t3 nums hpre
          · have hE' := hE.pre (h.gr ks3 k23) (kt3.wk (by decide))
            have tk := hE.tk (nI 41)
            have fl := hE.fl
            have w0 := hE.1
            subst w0
            refine SIM.e hE' (v := mI) ?_ ?_
            · simp (implicitDefEqProofs := false) (disch := omega) only [mX5_plain_59, u1, p1, r1, e1, tk, fl, ↓bnd_e, ↓ob_s, ob_s, su_1, su_2, sl_1, sl_2, ↓ck_n, ck_n, ck_Z0, ck_Z1, c_lt, c_le, c_eq, ng_1, m_ne, m_en, m_lt, m_le, m_gt, m_ge, n_add, n_mul, n_sub, n_sm, n_pm, n_0m, n_cl, Nat.reduceEqDiff, ↓reduceIte, nle_T, nle_F, nlt_T, nlt_F, neq_F, neq_T, if_true, if_false, true_and, and_true, Nat.mul_zero, Nat.zero_add, Nat.add_zero, Nat.reduceAdd, Nat.reduceMul, Nat.reduceSub, li_0, li_1, li_2, li_3, li_4, li_5, li_6, li_7, li_8, li_9, li_10, li_11, li_12, li_13, li_14, li_15, li_16, li_20, li_24, li_28, li_31, li_35, li_38, li_40, li_41, li_45, li_48, li_60, li_62, li_63, li_97, li_100, li_104, li_105, li_120, li_124, li_127, li_180, li_239, li_240, li_255, li_256, li_300, li_400, li_960, li_1000000]
            · simp (implicitDefEqProofs := false) (disch := omega) only [pRt, u2, p2, r2, e2, ↓bnd_e, ↓ob_s, ob_s, su_1, su_2, sl_1, sl_2, ↓ck_n, ck_n, ck_Z0, ck_Z1, c_lt, c_le, c_eq, ng_1, m_ne, m_en, m_lt, m_le, m_gt, m_ge, n_add, n_mul, n_sub, n_sm, n_pm, n_0m, n_cl, Nat.reduceEqDiff, ↓reduceIte, nle_T, nle_F, nlt_T, nlt_F, neq_F, neq_T, if_true, if_false, true_and, and_true, Nat.mul_zero, Nat.zero_add, Nat.add_zero, Nat.reduceAdd, Nat.reduceMul, Nat.reduceSub, li_0, li_1, li_2, li_3, li_4, li_5, li_6, li_7, li_8, li_9, li_10, li_11, li_12, li_13, li_14, li_15, li_16, li_20, li_24, li_28, li_31, li_35, li_38, li_40, li_41, li_45, li_48, li_60, li_62, li_63, li_97, li_100, li_104, li_105, li_120, li_124, li_127, li_180, li_239, li_240, li_255, li_256, li_300, li_400, li_960, li_1000000]
          · have hS' := SUC.lead h ks3 k23 kt3 (by omega) hS
            have wv : w = nI (P' - 1) := hS.1.2.2.2.1
            have hP400 : P' ≤ 400 := by have := hS.2.1.2.2.2.2; have := hS.2.1.1.1.1; have := hS.2.1.1.1.2.1; omega
            obtain ⟨q4, A4, s4, t4, i1, i2, i3, i4, i5, i6, i7, i8⟩ := takes_rel hS.2.1.1 hS.2.1.2.1 (c := 41) (by omega)
            cases q4
            · rw [zB_0] at i1 i2
              have s43 : s4.1 3 0 = mI := by rw [i4 3 (by decide)]; exact hS.2.1.2.1
              obtain ⟨sE, f1, f2⟩ := ERR.here h (hS'.2.2.1.tr (hS.2.1.gr i4 i6)) (hS'.2.2.2.1.tr (i5.wk (by decide))) i3 s43
              refine SIM.e f2 (v := mI) ?_ ?_
              · simp (implicitDefEqProofs := false) (disch := omega) only [mX5_plain_59, u1, p1, r1, e1, i1, f1, ↓bnd_e, ↓ob_s, ob_s, su_1, su_2, sl_1, sl_2, ↓ck_n, ck_n, ck_Z0, ck_Z1, c_lt, c_le, c_eq, ng_1, m_ne, m_en, m_lt, m_le, m_gt, m_ge, n_add, n_mul, n_sub, n_sm, n_pm, n_0m, n_cl, Nat.reduceEqDiff, ↓reduceIte, nle_T, nle_F, nlt_T, nlt_F, neq_F, neq_T, if_true, if_false, true_and, and_true, Nat.mul_zero, Nat.zero_add, Nat.add_zero, Nat.reduceAdd, Nat.reduceMul, Nat.reduceSub, li_0, li_1, li_2, li_3, li_4, li_5, li_6, li_7, li_8, li_9, li_10, li_11, li_12, li_13, li_14, li_15, li_16, li_20, li_24, li_28, li_31, li_35, li_38, li_40, li_41, li_45, li_48, li_60, li_62, li_63, li_97, li_100, li_104, li_105, li_120, li_124, li_127, li_180, li_239, li_240, li_255, li_256, li_300, li_400, li_960, li_1000000]
              · rw [wv] at e2
                simp (implicitDefEqProofs := false) (disch := omega) only [pRt, u2, p2, r2, e2, i2, ↓bnd_e, ↓ob_s, ob_s, su_1, su_2, sl_1, sl_2, ↓ck_n, ck_n, ck_Z0, ck_Z1, c_lt, c_le, c_eq, ng_1, m_ne, m_en, m_lt, m_le, m_gt, m_ge, n_add, n_mul, n_sub, n_sm, n_pm, n_0m, n_cl, Nat.reduceEqDiff, ↓reduceIte, nle_T, nle_F, nlt_T, nlt_F, neq_F, neq_T, if_true, if_false, true_and, and_true, Nat.mul_zero, Nat.zero_add, Nat.add_zero, Nat.reduceAdd, Nat.reduceMul, Nat.reduceSub, li_0, li_1, li_2, li_3, li_4, li_5, li_6, li_7, li_8, li_9, li_10, li_11, li_12, li_13, li_14, li_15, li_16, li_20, li_24, li_28, li_31, li_35, li_38, li_40, li_41, li_45, li_48, li_60, li_62, li_63, li_97, li_100, li_104, li_105, li_120, li_124, li_127, li_180, li_239, li_240, li_255, li_256, li_300, li_400, li_960, li_1000000]
            · rw [zB_1] at i1 i2
              refine SIM.s (hS'.trail i4 i6 i5 i3 i7) ?_ ?_
              · simp (implicitDefEqProofs := false) (disch := omega) only [mX5_plain_59, u1, p1, r1, e1, i1, ↓bnd_e, ↓ob_s, ob_s, su_1, su_2, sl_1, sl_2, ↓ck_n, ck_n, ck_Z0, ck_Z1, c_lt, c_le, c_eq, ng_1, m_ne, m_en, m_lt, m_le, m_gt, m_ge, n_add, n_mul, n_sub, n_sm, n_pm, n_0m, n_cl, Nat.reduceEqDiff, ↓reduceIte, nle_T, nle_F, nlt_T, nlt_F, neq_F, neq_T, if_true, if_false, true_and, and_true, Nat.mul_zero, Nat.zero_add, Nat.add_zero, Nat.reduceAdd, Nat.reduceMul, Nat.reduceSub, li_0, li_1, li_2, li_3, li_4, li_5, li_6, li_7, li_8, li_9, li_10, li_11, li_12, li_13, li_14, li_15, li_16, li_20, li_24, li_28, li_31, li_35, li_38, li_40, li_41, li_45, li_48, li_60, li_62, li_63, li_97, li_100, li_104, li_105, li_120, li_124, li_127, li_180, li_239, li_240, li_255, li_256, li_300, li_400, li_960, li_1000000]
              · rw [wv] at e2 ⊢
                simp (implicitDefEqProofs := false) (disch := omega) only [pRt, u2, p2, r2, e2, i2, ↓bnd_e, ↓ob_s, ob_s, su_1, su_2, sl_1, sl_2, ↓ck_n, ck_n, ck_Z0, ck_Z1, c_lt, c_le, c_eq, ng_1, m_ne, m_en, m_lt, m_le, m_gt, m_ge, n_add, n_mul, n_sub, n_sm, n_pm, n_0m, n_cl, Nat.reduceEqDiff, ↓reduceIte, nle_T, nle_F, nlt_T, nlt_F, neq_F, neq_T, if_true, if_false, true_and, and_true, Nat.mul_zero, Nat.zero_add, Nat.add_zero, Nat.reduceAdd, Nat.reduceMul, Nat.reduceSub, li_0, li_1, li_2, li_3, li_4, li_5, li_6, li_7, li_8, li_9, li_10, li_11, li_12, li_13, li_14, li_15, li_16, li_20, li_24, li_28, li_31, li_35, li_38, li_40, li_41, li_45, li_48, li_60, li_62, li_63, li_97, li_100, li_104, li_105, li_120, li_124, li_127, li_180, li_239, li_240, li_255, li_256, li_300, li_400, li_960, li_1000000]
      · rw [zB_1] at p1 p2
        have A2lt := p8 rfl
        have hpre := h.mv ks2 kt2 p3 (by omega)
        obtain ⟨v, sv, w, tw, e1, e2, hE | ⟨A', P', nums', hS⟩⟩ := hP N A2 P s2 t2 nums hpre
        · obtain ⟨r, sr, f1, f2⟩ := hE.num (nI 2) v mI
          have hE' := f2.pre (h.gr ks2 k22) (kt2.wk (by decide))
          have w0 := hE.1
          subst w0
          refine SIM.e hE' (v := r) ?_ ?_
          · simp (implicitDefEqProofs := false) (disch := omega) only [mX5_plain_59, u1, p1, e1, f1, ↓bnd_e, ↓ob_s, ob_s, su_1, su_2, sl_1, sl_2, ↓ck_n, ck_n, ck_Z0, ck_Z1, c_lt, c_le, c_eq, ng_1, m_ne, m_en, m_lt, m_le, m_gt, m_ge, n_add, n_mul, n_sub, n_sm, n_pm, n_0m, n_cl, Nat.reduceEqDiff, ↓reduceIte, nle_T, nle_F, nlt_T, nlt_F, neq_F, neq_T, if_true, if_false, true_and, and_true, Nat.mul_zero, Nat.zero_add, Nat.add_zero, Nat.reduceAdd, Nat.reduceMul, Nat.reduceSub, li_0, li_1, li_2, li_3, li_4, li_5, li_6, li_7, li_8, li_9, li_10, li_11, li_12, li_13, li_14, li_15, li_16, li_20, li_24, li_28, li_31, li_35, li_38, li_40, li_41, li_45, li_48, li_60, li_62, li_63, li_97, li_100, li_104, li_105, li_120, li_124, li_127, li_180, li_239, li_240, li_255, li_256, li_300, li_400, li_960, li_1000000]
          · simp (implicitDefEqProofs := false) (disch := omega) only [pRt, u2, p2, e2, ↓bnd_e, ↓ob_s, ob_s, su_1, su_2, sl_1, sl_2, ↓ck_n, ck_n, ck_Z0, ck_Z1, c_lt, c_le, c_eq, ng_1, m_ne, m_en, m_lt, m_le, m_gt, m_ge, n_add, n_mul, n_sub, n_sm, n_pm, n_0m, n_cl, Nat.reduceEqDiff, ↓reduceIte, nle_T, nle_F, nlt_T, nlt_F, neq_F, neq_T, if_true, if_false, true_and, and_true, Nat.mul_zero, Nat.zero_add, Nat.add_zero, Nat.reduceAdd, Nat.reduceMul, Nat.reduceSub, li_0, li_1, li_2, li_3, li_4, li_5, li_6, li_7, li_8, li_9, li_10, li_11, li_12, li_13, li_14, li_15, li_16, li_20, li_24, li_28, li_31, li_35, li_38, li_40, li_41, li_45, li_48, li_60, li_62, li_63, li_97, li_100, li_104, li_105, li_120, li_124, li_127, li_180, li_239, li_240, li_255, li_256, li_300, li_400, li_960, li_1000000]
        · obtain ⟨r, sr, tr, nums3, f1, f2, f3⟩ := SUC.neg h ks2 k22 kt2 (by omega) hS mI
          have wv : w = nI (P' - 1) := hS.1.2.2.2.1
          have hP400 : P' ≤ 400 := by have := hS.2.1.2.2.2.2; have := hS.2.1.1.1.1; have := hS.2.1.1.1.2.1; omega
          refine SIM.s f3 ?_ ?_
          · simp (implicitDefEqProofs := false) (disch := omega) only [mX5_plain_59, u1, p1, e1, f1, ↓bnd_e, ↓ob_s, ob_s, su_1, su_2, sl_1, sl_2, ↓ck_n, ck_n, ck_Z0, ck_Z1, c_lt, c_le, c_eq, ng_1, m_ne, m_en, m_lt, m_le, m_gt, m_ge, n_add, n_mul, n_sub, n_sm, n_pm, n_0m, n_cl, Nat.reduceEqDiff, ↓reduceIte, nle_T, nle_F, nlt_T, nlt_F, neq_F, neq_T, if_true, if_false, true_and, and_true, Nat.mul_zero, Nat.zero_add, Nat.add_zero, Nat.reduceAdd, Nat.reduceMul, Nat.reduceSub, li_0, li_1, li_2, li_3, li_4, li_5, li_6, li_7, li_8, li_9, li_10, li_11, li_12, li_13, li_14, li_15, li_16, li_20, li_24, li_28, li_31, li_35, li_38, li_40, li_41, li_45, li_48, li_60, li_62, li_63, li_97, li_100, li_104, li_105, li_120, li_124, li_127, li_180, li_239, li_240, li_255, li_256, li_300, li_400, li_960, li_1000000]
          · rw [wv] at e2 f2
            simp (implicitDefEqProofs := false) (disch := omega) only [pRt, u2, p2, e2, f2, ↓bnd_e, ↓ob_s, ob_s, su_1, su_2, sl_1, sl_2, ↓ck_n, ck_n, ck_Z0, ck_Z1, c_lt, c_le, c_eq, ng_1, m_ne, m_en, m_lt, m_le, m_gt, m_ge, n_add, n_mul, n_sub, n_sm, n_pm, n_0m, n_cl, Nat.reduceEqDiff, ↓reduceIte, nle_T, nle_F, nlt_T, nlt_F, neq_F, neq_T, if_true, if_false, true_and, and_true, Nat.mul_zero, Nat.zero_add, Nat.add_zero, Nat.reduceAdd, Nat.reduceMul, Nat.reduceSub, li_0, li_1, li_2, li_3, li_4, li_5, li_6, li_7, li_8, li_9, li_10, li_11, li_12, li_13, li_14, li_15, li_16, li_20, li_24, li_28, li_31, li_35, li_38, li_40, li_41, li_45, li_48, li_60, li_62, li_63, li_97, li_100, li_104, li_105, li_120, li_124, li_127, li_180, li_239, li_240, li_255, li_256, li_300, li_400, li_960, li_1000000]
    · rw [zB_1] at u1 u2
      have A1lt := u8 rfl
      obtain ⟨r, sr, tr, nums3, f1, f2, f3⟩ := SUC.leaf (so := 1) (nums := nums) (x := mI) (y := mI) (x' := mI) (y' := mI) (by omega) h ks1 k21 kt1 u3 (by omega) (Or.inr (Or.inl ⟨rfl, rfl, rfl⟩)) (fun h => by omega)
      refine SIM.s f3 ?_ ?_
      · simp (implicitDefEqProofs := false) (disch := omega) only [mX5_plain_59, u1, f1, ↓bnd_e, ↓ob_s, ob_s, su_1, su_2, sl_1, sl_2, ↓ck_n, ck_n, ck_Z0, ck_Z1, c_lt, c_le, c_eq, ng_1, m_ne, m_en, m_lt, m_le, m_gt, m_ge, n_add, n_mul, n_sub, n_sm, n_pm, n_0m, n_cl, Nat.reduceEqDiff, ↓reduceIte, nle_T, nle_F, nlt_T, nlt_F, neq_F, neq_T, if_true, if_false, true_and, and_true, Nat.mul_zero, Nat.zero_add, Nat.add_zero, Nat.reduceAdd, Nat.reduceMul, Nat.reduceSub, li_0, li_1, li_2, li_3, li_4, li_5, li_6, li_7, li_8, li_9, li_10, li_11, li_12, li_13, li_14, li_15, li_16, li_20, li_24, li_28, li_31, li_35, li_38, li_40, li_41, li_45, li_48, li_60, li_62, li_63, li_97, li_100, li_104, li_105, li_120, li_124, li_127, li_180, li_239, li_240, li_255, li_256, li_300, li_400, li_960, li_1000000]
      · simp (implicitDefEqProofs := false) (disch := omega) only [pRt, u2, f2, ↓bnd_e, ↓ob_s, ob_s, su_1, su_2, sl_1, sl_2, ↓ck_n, ck_n, ck_Z0, ck_Z1, c_lt, c_le, c_eq, ng_1, m_ne, m_en, m_lt, m_le, m_gt, m_ge, n_add, n_mul, n_sub, n_sm, n_pm, n_0m, n_cl, Nat.reduceEqDiff, ↓reduceIte, nle_T, nle_F, nlt_T, nlt_F, neq_F, neq_T, if_true, if_false, true_and, and_true, Nat.mul_zero, Nat.zero_add, Nat.add_zero, Nat.reduceAdd, Nat.reduceMul, Nat.reduceSub, li_0, li_1, li_2, li_3, li_4, li_5, li_6, li_7, li_8, li_9, li_10, li_11, li_12, li_13, li_14, li_15, li_16, li_20, li_24, li_28, li_31, li_35, li_38, li_40, li_41, li_45, li_48, li_60, li_62, li_63, li_97, li_100, li_104, li_105, li_120, li_124, li_127, li_180, li_239, li_240, li_255, li_256, li_300, li_400, li_960, li_1000000]
