/-- what waits on the class's side: the last first -/
def SIt (s : St) : List (Nat × Nat) → Nat → Prop
  | [], c => c = 0
  | x :: r, c => ∃ c', c = c' + 1 ∧ s.1 20 c' = nI x.1 ∧ s.1 21 c' = nI x.2 ∧ SIt s r c'
theorem SIt.c {s s' : St} : ∀ l c, SIt s l c → (∀ i, i < c → s'.1 20 i = s.1 20 i ∧ s'.1 21 i = s.1 21 i) → SIt s' l c := by
  intro l
  induction l with
  | nil => intro c h _; exact h
  | cons x r ih =>
    intro c h he
    obtain ⟨c', rfl, h1, h2, h3⟩ := h
    exact ⟨c', rfl, by rw [(he c' (by omega)).1]; exact h1, by rw [(he c' (by omega)).2]; exact h2, ih c' h3 (fun i hi => he i (by omega))⟩
def smW (g : Nat → Nat → Int32) : List (Nat × Nat) → Nat
  | [] => 0
  | x :: r => (WT g x.1).length + smW g r
theorem smW_app (g : Nat → Nat → Int32) (l l' : List (Nat × Nat)) : smW g (l ++ l') = smW g l + smW g l' := by
  induction l with
  | nil => exact (Nat.zero_add _).symm
  | cons x r ih => show (WT g x.1).length + smW g (r ++ l') = (WT g x.1).length + smW g r + smW g l'; rw [ih]; omega
/-- an item that waits: its place in the text T -/
def IVt (F : Nat) (g : Nat → Nat → Int32) (T : List Int32) (x : Nat × Nat) : Prop := x.1 < F ∧ ∀ i, i < (WT g x.1).length → T[x.2 + i]? = (WT g x.1)[i]?
def CMt (T : List Int32) (s s' : St) : Prop := ∀ pos, T[pos]? = some (s.1 19 pos) → T[pos]? = some (s'.1 19 pos)
theorem CMt.tr {T : List Int32} {s s' s'' : St} (h : CMt T s s') (h' : CMt T s' s'') : CMt T s s'' := fun p e => h' p (h p e)
theorem CMt.k {T : List Int32} {s s' : St} {l : List Nat} (h : KE l s s') (hl : 19 ∉ l) : CMt T s s' := fun p e => by rw [h 19 hl]; exact e
theorem WT_pos {F : Nat} {σ τ : St} (h : RF F σ τ) {p : Nat} (hp : p < F) : 1 ≤ (WT τ.1 p).length := by
  obtain ⟨s, s5, e15, _, ag⟩ := h.st hp
  have wt := h.wt hp e15 s5
  rcases ag with ⟨rfl, k, hk, x1, _⟩ | ⟨rfl, _⟩ | ⟨rfl, a, ha, x1, _⟩ | ⟨s3, _, a, b, ha, hb, x1, x2⟩
  · rw [wt.1 rfl k hk x1]; exact Nat.le_refl 1
  · rw [wt.2.1 rfl]; exact Nat.le_refl 1
  · rw [wt.2.2.1 rfl a ha x1, List.length_cons]; omega
  · rw [wt.2.2.2 s3 a b ha hb x1 x2, List.length_append, List.length_cons]; omega
theorem get_lt {T : List Int32} {k : Nat} {v : Int32} (h : T[k]? = some v) : k < T.length := by
  by_cases e : k < T.length
  · exact e
  · rw [List.getElem?_eq_none (by omega)] at h; exact absurd h (by simp)
theorem m2_set {T : List Int32} {s : St} {pos c : Nat} (hp : pos < 400) (hc : c < 128) (ht : T[pos]? = some (nI c)) : ∃ s', mX2_set s (nI pos) (nI c) = some s' ∧ KE [19] s s' ∧ s'.2 = s.2 ∧ CMt T s s' ∧ T[pos]? = some (s'.1 19 pos) := by
  have hn := nar_b c hc
  refine ⟨su s 19 (upd (s.1 19) pos (nI c)), ?_, KE.rf.s (by decide), rfl, fun q e => ?_, ?_⟩
  · simp (implicitDefEqProofs := false) (disch := omega) only [mX2_set, hn, ↓bnd_e, ↓ob_s, ob_s, su_1, su_2, sl_1, sl_2, ↓ck_n, ck_n, ck_Z0, ck_Z1, c_lt, c_le, c_eq, ng_1, m_ne, m_en, m_lt, m_le, m_gt, m_ge, n_add, n_mul, n_sub, n_sm, n_pm, n_0m, n_cl, Nat.reduceEqDiff, ↓reduceIte, nle_T, nle_F, nlt_T, nlt_F, neq_F, neq_T, if_true, if_false, true_and, and_true, Nat.mul_zero, Nat.zero_add, Nat.add_zero, Nat.reduceAdd, Nat.reduceMul, Nat.reduceSub, li_0, li_1, li_2, li_3, li_4, li_5, li_6, li_7, li_8, li_9, li_10, li_11, li_12, li_13, li_14, li_15, li_16, li_20, li_24, li_28, li_31, li_35, li_38, li_40, li_41, li_45, li_48, li_60, li_62, li_63, li_97, li_100, li_104, li_105, li_120, li_124, li_127, li_180, li_239, li_240, li_255, li_256, li_300, li_400, li_960, li_1000000]
  · show T[q]? = some (upd (s.1 19) pos (nI c) q)
    by_cases e2 : q = pos
    · rw [e2, pk_us]; exact ht
    · rw [pk_un e2]; exact e
  · show T[pos]? = some (upd (s.1 19) pos (nI c) pos)
    rw [pk_us]; exact ht
theorem br_at (b : Bool) (l : List Int32) {i : Nat} (hi : i < l.length) : (br b l)[(if b then 1 else 0) + i]? = l[i]? := by
  cases b
  · show l[0 + i]? = l[i]?
    rw [Nat.zero_add]
  · show (nI 40 :: (l ++ [nI 41]))[1 + i]? = l[i]?
    rw [Nat.add_comm 1 i, List.getElem?_cons_succ, List.getElem?_append_left hi]
theorem m2_wait {s : St} {c g pl : Nat} (h4 : s.1 4 0 = nI c) (hc : c < 400) : mX2_addWaiting s (nI g) (nI pl) = some (su (su (su s 20 (upd (s.1 20) c (nI g))) 21 (upd (s.1 21) c (nI pl))) 4 (fun _ => nI (c + 1))) := by
  simp (implicitDefEqProofs := false) (disch := omega) only [mX2_addWaiting, h4, ↓bnd_e, ↓ob_s, ob_s, su_1, su_2, sl_1, sl_2, ↓ck_n, ck_n, ck_Z0, ck_Z1, c_lt, c_le, c_eq, ng_1, m_ne, m_en, m_lt, m_le, m_gt, m_ge, n_add, n_mul, n_sub, n_sm, n_pm, n_0m, n_cl, Nat.reduceEqDiff, ↓reduceIte, nle_T, nle_F, nlt_T, nlt_F, neq_F, neq_T, if_true, if_false, true_and, and_true, Nat.mul_zero, Nat.zero_add, Nat.add_zero, Nat.reduceAdd, Nat.reduceMul, Nat.reduceSub, li_0, li_1, li_2, li_3, li_4, li_5, li_6, li_7, li_8, li_9, li_10, li_11, li_12, li_13, li_14, li_15, li_16, li_20, li_24, li_28, li_31, li_35, li_38, li_40, li_41, li_45, li_48, li_60, li_62, li_63, li_97, li_100, li_104, li_105, li_120, li_124, li_127, li_180, li_239, li_240, li_255, li_256, li_300, li_400, li_960, li_1000000]
theorem m2_part {F : Nat} {σ τ : St} (h : RF F σ τ) {T : List Int32} (hT : T.length ≤ 400) {s : St} {c o p pl rr sp : Nat} {b : Bool} (hK : KE [4, 5, 19, 20, 21] σ s) (h4 : s.1 4 0 = nI c) (hc : c < 400) (hp : p < F) (hsp : τ.1 15 p = nI sp)
    (hb : ∀ s, mX1_needsBrackets s (nI o) (nI sp) (nI rr) = some (zB b)) (hv : ∀ i, i < (br b (WT τ.1 p)).length → T[pl + i]? = (br b (WT τ.1 p))[i]?) :
    ∃ s', mX2_putPart s (nI o) (nI p) (nI pl) (nI rr) = some (nI (pl + (br b (WT τ.1 p)).length), s') ∧ KE [4, 19, 20, 21] s s' ∧ s'.2 = s.2 ∧ s'.1 4 0 = nI (c + 1) ∧ (∀ i, i < c → s'.1 20 i = s.1 20 i ∧ s'.1 21 i = s.1 21 i) ∧ s'.1 20 c = nI p ∧ s'.1 21 c = nI (pl + (if b then 1 else 0)) ∧
      CMt T s s' ∧ (∀ pos, pl ≤ pos → pos < pl + (br b (WT τ.1 p)).length → (pl + (if b then 1 else 0) ≤ pos ∧ pos < pl + (if b then 1 else 0) + (WT τ.1 p).length) ∨ T[pos]? = some (s'.1 19 pos)) := by
  have hF := h.le
  have wp := WT_pos h hp
  have lb := br_len b (WT τ.1 p)
  have bound : pl + (br b (WT τ.1 p)).length ≤ 400 := by
    have := hv ((br b (WT τ.1 p)).length - 1) (by omega)
    have e2 := List.getElem?_eq_getElem (l := br b (WT τ.1 p)) (i := (br b (WT τ.1 p)).length - 1) (by omega)
    rw [e2] at this
    have := get_lt this
    omega
  have h00 : s.1 0 0 = nI F := by rw [hK 0 (by decide)]; exact h.1.2.1
  have kw : mX1_width s (nI p) = some (nI (WT τ.1 p).length) := by
    rw [gn_width h00 hF hp, hK 17 (by decide), (h.2.1 p hp).2.2.2.1]
    have : min 1000000 (WT τ.1 p).length = (WT τ.1 p).length := by omega
    rw [this]
  have ks : mX1_sort s (nI p) = some (nI sp) := by rw [x1_sort h00 hF hp, hK 12 (by decide), (h.f3 p hp).1, hsp]
  have kb := hb s
  cases b
  · obtain ⟨s', es⟩ : ∃ v, v = su (su (su s 20 (upd (s.1 20) c (nI p))) 21 (upd (s.1 21) c (nI pl))) 4 (fun _ => nI (c + 1)) := ⟨_, rfl⟩
    have ew := m2_wait (g := p) (pl := pl) h4 hc
    rw [← es] at ew
    have k' : KE [4, 20, 21] s s' := by rw [es]; exact ((KE.rf.s (by decide)).s (by decide)).s (by decide)
    refine ⟨s', ?_, k'.wk (by decide), by rw [es]; rfl, by rw [es]; rfl, fun i hi => ⟨?_, ?_⟩, ?_, ?_, CMt.k k' (by decide), fun pos h1 h2 => Or.inl ⟨h1, h2⟩⟩
    · rw [zB_0] at kb
      have : (br false (WT τ.1 p)).length = (WT τ.1 p).length := rfl
      rw [this]
      simp (implicitDefEqProofs := false) (disch := omega) only [mX2_putPart, kw, ks, kb, ew, ↓bnd_e, ↓ob_s, ob_s, su_1, su_2, sl_1, sl_2, ↓ck_n, ck_n, ck_Z0, ck_Z1, c_lt, c_le, c_eq, ng_1, m_ne, m_en, m_lt, m_le, m_gt, m_ge, n_add, n_mul, n_sub, n_sm, n_pm, n_0m, n_cl, Nat.reduceEqDiff, ↓reduceIte, nle_T, nle_F, nlt_T, nlt_F, neq_F, neq_T, if_true, if_false, true_and, and_true, Nat.mul_zero, Nat.zero_add, Nat.add_zero, Nat.reduceAdd, Nat.reduceMul, Nat.reduceSub, li_0, li_1, li_2, li_3, li_4, li_5, li_6, li_7, li_8, li_9, li_10, li_11, li_12, li_13, li_14, li_15, li_16, li_20, li_24, li_28, li_31, li_35, li_38, li_40, li_41, li_45, li_48, li_60, li_62, li_63, li_97, li_100, li_104, li_105, li_120, li_124, li_127, li_180, li_239, li_240, li_255, li_256, li_300, li_400, li_960, li_1000000]
    · rw [es]; show upd (s.1 20) c (nI p) i = _; rw [pk_un (by omega)]
    · rw [es]; show upd (s.1 21) c (nI pl) i = _; rw [pk_un (by omega)]
    · rw [es]; show upd (s.1 20) c (nI p) c = _; rw [pk_us]
    · rw [es]; show upd (s.1 21) c (nI pl) c = _; rw [pk_us]; rfl
  · have l2 : (br true (WT τ.1 p)).length = (WT τ.1 p).length + 2 := lb
    rw [l2] at bound hv
    have t40 : T[pl]? = some (nI 40) := hv 0 (by omega)
    have t41 : T[pl + 1 + (WT τ.1 p).length]? = some (nI 41) := by
      have e := hv ((WT τ.1 p).length + 1) (by omega)
      have e2 : (br true (WT τ.1 p))[(WT τ.1 p).length + 1]? = some (nI 41) := by
        show (nI 40 :: (WT τ.1 p ++ [nI 41]))[(WT τ.1 p).length + 1]? = some (nI 41)
        rw [List.getElem?_cons_succ, List.getElem?_append_right (Nat.le_refl _), Nat.sub_self]; rfl
      rw [e2] at e
      have e3 : pl + ((WT τ.1 p).length + 1) = pl + 1 + (WT τ.1 p).length := by omega
      rw [e3] at e; exact e
    obtain ⟨s1, e1, k1, q1, m1, n1⟩ := m2_set (s := s) (c := 40) (by omega) (by omega) t40
    have h41 : s1.1 4 0 = nI c := by rw [k1 4 (by decide)]; exact h4
    obtain ⟨s2, es⟩ : ∃ v, v = su (su (su s1 20 (upd (s1.1 20) c (nI p))) 21 (upd (s1.1 21) c (nI (pl + 1)))) 4 (fun _ => nI (c + 1)) := ⟨_, rfl⟩
    have ew := m2_wait (g := p) (pl := pl + 1) h41 hc
    rw [← es] at ew
    have k2 : KE [4, 20, 21] s1 s2 := by rw [es]; exact ((KE.rf.s (by decide)).s (by decide)).s (by decide)
    obtain ⟨s3, e3, k3, q3, m3, n3⟩ := m2_set (s := s2) (c := 41) (pos := pl + 1 + (WT τ.1 p).length) (by omega) (by omega) t41
    have cm : CMt T s s3 := (m1.tr (CMt.k k2 (by decide))).tr m3
    refine ⟨s3, ?_, ((k1.wk (by decide)).tr (k2.wk (by decide))).tr (k3.wk (by decide)), q3.trans ((by rw [es]; rfl : s2.2 = s1.2).trans q1), ?_, fun i hi => ⟨?_, ?_⟩, ?_, ?_, cm, fun pos h1 h2 => ?_⟩
    · rw [l2]
      rw [zB_1] at kb
      have e3' : mX2_set s2 (nI (pl + 1) + nI (WT τ.1 p).length) (nI 41) = some s3 := by rw [n_add]; exact e3
      have ea : pl + (WT τ.1 p).length + 2 = pl + ((WT τ.1 p).length + 2) := by omega
      simp (implicitDefEqProofs := false) (disch := omega) only [mX2_putPart, kw, ks, kb, e1, ew, e3, ea, ↓bnd_e, ↓ob_s, ob_s, su_1, su_2, sl_1, sl_2, ↓ck_n, ck_n, ck_Z0, ck_Z1, c_lt, c_le, c_eq, ng_1, m_ne, m_en, m_lt, m_le, m_gt, m_ge, n_add, n_mul, n_sub, n_sm, n_pm, n_0m, n_cl, Nat.reduceEqDiff, ↓reduceIte, nle_T, nle_F, nlt_T, nlt_F, neq_F, neq_T, if_true, if_false, true_and, and_true, Nat.mul_zero, Nat.zero_add, Nat.add_zero, Nat.reduceAdd, Nat.reduceMul, Nat.reduceSub, li_0, li_1, li_2, li_3, li_4, li_5, li_6, li_7, li_8, li_9, li_10, li_11, li_12, li_13, li_14, li_15, li_16, li_20, li_24, li_28, li_31, li_35, li_38, li_40, li_41, li_45, li_48, li_60, li_62, li_63, li_97, li_100, li_104, li_105, li_120, li_124, li_127, li_180, li_239, li_240, li_255, li_256, li_300, li_400, li_960, li_1000000]
    · rw [k3 4 (by decide), es]; rfl
    · rw [k3 20 (by decide), es]; show upd (s1.1 20) c (nI p) i = _; rw [pk_un (by omega), k1 20 (by decide)]
    · rw [k3 21 (by decide), es]; show upd (s1.1 21) c (nI (pl + 1)) i = _; rw [pk_un (by omega), k1 21 (by decide)]
    · rw [k3 20 (by decide), es]; show upd (s1.1 20) c (nI p) c = _; rw [pk_us]
    · rw [k3 21 (by decide), es]; show upd (s1.1 21) c (nI (pl + 1)) c = _; rw [pk_us]; rfl
    · rw [l2] at h2
      have i1 : (if true = true then 1 else 0) = 1 := rfl
      rw [i1]
      by_cases c1 : pos = pl
      · refine Or.inr ?_
        rw [c1]
        exact ((CMt.k k2 (by decide)).tr m3) pl n1
      · by_cases c2 : pos = pl + 1 + (WT τ.1 p).length
        · refine Or.inr ?_
          rw [c2]; exact n3
        · exact Or.inl ⟨by omega, by omega⟩
theorem opb_v : ∀ s, 3 ≤ s → s ≤ 5 → ∃ c, c < 128 ∧ opb s = nI c := by
  intro s h3 h5
  have hs : s = 3 ∨ s = 4 ∨ s = 5 := by omega
  rcases hs with rfl | rfl | rfl
  · exact ⟨38, by omega, rfl⟩
  · exact ⟨124, by omega, rfl⟩
  · exact ⟨62, by omega, rfl⟩
/-- one item is written -/
theorem m2_one {F : Nat} {σ τ : St} (h : RF F σ τ) {T : List Int32} (hT : T.length ≤ 400) {s : St} {c g pl : Nat} (hK : KE [4, 5, 19, 20, 21] σ s) (h4 : s.1 4 0 = nI c) (hg : g < F) (hc : c + (WT τ.1 g).length ≤ 400) (hv : ∀ i, i < (WT τ.1 g).length → T[pl + i]? = (WT τ.1 g)[i]?) :
    ∃ s' items, mX2_putOne s (nI g) (nI pl) = some s' ∧ KE [4, 19, 20, 21] s s' ∧ s'.2 = s.2 ∧ s'.1 4 0 = nI (c + items.length) ∧ (∀ rest, SIt s rest c → SIt s' (items ++ rest) (c + items.length)) ∧ smW τ.1 items + 1 ≤ (WT τ.1 g).length ∧ (∀ x, x ∈ items → IVt F τ.1 T x) ∧
      CMt T s s' ∧ ∀ pos, pl ≤ pos → pos < pl + (WT τ.1 g).length → (∃ x, x ∈ items ∧ x.2 ≤ pos ∧ pos < x.2 + (WT τ.1 x.1).length) ∨ T[pos]? = some (s'.1 19 pos) := by
  have hF := h.le
  have h00 : s.1 0 0 = nI F := by rw [hK 0 (by decide)]; exact h.1.2.1
  obtain ⟨sg, s5, e15, c12, ag⟩ := h.st hg
  have wt := h.wt hg e15 s5
  have wpos := WT_pos h hg
  have bound : pl + (WT τ.1 g).length ≤ 400 := by
    have := hv ((WT τ.1 g).length - 1) (by omega)
    have e2 := List.getElem?_eq_getElem (l := WT τ.1 g) (i := (WT τ.1 g).length - 1) (by omega)
    rw [e2] at this
    have := get_lt this
    omega
  have ks : mX1_sort s (nI g) = some (nI sg) := by rw [x1_sort h00 hF hg, hK 12 (by decide), c12]
  obtain ⟨_, f13, f14⟩ := h.f3 g hg
  rcases ag with ⟨rfl, l, hl, x1, _⟩ | ⟨rfl, _⟩ | ⟨rfl, a, ha, x1, _⟩ | ⟨s3, _, a, b, ha, hb, x1, x2⟩
  · have w := wt.1 rfl l hl x1
    rw [w] at hv hc bound
    have hlen : [nI (97 + l)].length = 1 := rfl
    have t0 : T[pl]? = some (nI (97 + l)) := hv 0 (by omega)
    obtain ⟨s1, e1, k1, q1, m1, n1⟩ := m2_set (s := s) (c := 97 + l) (by omega) (by omega) t0
    have kf : mX1_first s (nI g) = some (nI l) := by rw [gn_first h00 hF hg, hK 13 (by decide), f13, x1]
    refine ⟨s1, [], ?_, k1.wk (by decide), q1, by rw [k1 4 (by decide)]; exact h4, fun rest hr => SIt.c rest c hr (fun i _ => ⟨by rw [k1 20 (by decide)], by rw [k1 21 (by decide)]⟩), by rw [w]; exact Nat.le_refl 1, fun x hx => absurd hx (by simp), m1, fun pos h1 h2 => Or.inr ?_⟩
    · simp (implicitDefEqProofs := false) (disch := omega) only [mX2_putOne, ks, kf, e1, ↓bnd_e, ↓ob_s, ob_s, su_1, su_2, sl_1, sl_2, ↓ck_n, ck_n, ck_Z0, ck_Z1, c_lt, c_le, c_eq, ng_1, m_ne, m_en, m_lt, m_le, m_gt, m_ge, n_add, n_mul, n_sub, n_sm, n_pm, n_0m, n_cl, Nat.reduceEqDiff, ↓reduceIte, nle_T, nle_F, nlt_T, nlt_F, neq_F, neq_T, if_true, if_false, true_and, and_true, Nat.mul_zero, Nat.zero_add, Nat.add_zero, Nat.reduceAdd, Nat.reduceMul, Nat.reduceSub, li_0, li_1, li_2, li_3, li_4, li_5, li_6, li_7, li_8, li_9, li_10, li_11, li_12, li_13, li_14, li_15, li_16, li_20, li_24, li_28, li_31, li_35, li_38, li_40, li_41, li_45, li_48, li_60, li_62, li_63, li_97, li_100, li_104, li_105, li_120, li_124, li_127, li_180, li_239, li_240, li_255, li_256, li_300, li_400, li_960, li_1000000]
    · rw [w] at h2
      have : pos = pl := by omega
      rw [this]; exact n1
  · have w := wt.2.1 rfl
    rw [w] at hv hc bound
    have t0 : T[pl]? = some (nI 35) := hv 0 (by decide)
    have hlen : [nI 35].length = 1 := rfl
    obtain ⟨s1, e1, k1, q1, m1, n1⟩ := m2_set (s := s) (c := 35) (by omega) (by omega) t0
    refine ⟨s1, [], ?_, k1.wk (by decide), q1, by rw [k1 4 (by decide)]; exact h4, fun rest hr => SIt.c rest c hr (fun i _ => ⟨by rw [k1 20 (by decide)], by rw [k1 21 (by decide)]⟩), by rw [w]; exact Nat.le_refl 1, fun x hx => absurd hx (by simp), m1, fun pos h1 h2 => Or.inr ?_⟩
    · simp (implicitDefEqProofs := false) (disch := omega) only [mX2_putOne, ks, e1, ↓bnd_e, ↓ob_s, ob_s, su_1, su_2, sl_1, sl_2, ↓ck_n, ck_n, ck_Z0, ck_Z1, c_lt, c_le, c_eq, ng_1, m_ne, m_en, m_lt, m_le, m_gt, m_ge, n_add, n_mul, n_sub, n_sm, n_pm, n_0m, n_cl, Nat.reduceEqDiff, ↓reduceIte, nle_T, nle_F, nlt_T, nlt_F, neq_F, neq_T, if_true, if_false, true_and, and_true, Nat.mul_zero, Nat.zero_add, Nat.add_zero, Nat.reduceAdd, Nat.reduceMul, Nat.reduceSub, li_0, li_1, li_2, li_3, li_4, li_5, li_6, li_7, li_8, li_9, li_10, li_11, li_12, li_13, li_14, li_15, li_16, li_20, li_24, li_28, li_31, li_35, li_38, li_40, li_41, li_45, li_48, li_60, li_62, li_63, li_97, li_100, li_104, li_105, li_120, li_124, li_127, li_180, li_239, li_240, li_255, li_256, li_300, li_400, li_960, li_1000000]
    · rw [w] at h2
      have : pos = pl := by omega
      rw [this]; exact n1
  · have w := wt.2.2.1 rfl a ha x1
    obtain ⟨sa, sa5, ea15, _, _⟩ := h.st (show a < F by omega)
    rw [ea15, n_cl (by omega)] at w
    obtain ⟨bb, hbb⟩ : ∃ bb, bb = decide (3 ≤ sa) := ⟨_, rfl⟩
    rw [← hbb] at w
    have lw : (WT τ.1 g).length = (br bb (WT τ.1 a)).length + 1 := by rw [w, List.length_cons]
    have lb := br_len bb (WT τ.1 a)
    have wa := WT_pos h (show a < F by omega)
    have t0 : T[pl]? = some (nI 45) := by
      have := hv 0 (by omega)
      rw [w] at this; exact this
    have hva : ∀ i, i < (br bb (WT τ.1 a)).length → T[pl + 1 + i]? = (br bb (WT τ.1 a))[i]? := fun i hi => by
      have := hv (i + 1) (by omega)
      rw [w, List.getElem?_cons_succ] at this
      have e : pl + 1 + i = pl + (i + 1) := by omega
      rw [e]; exact this
    obtain ⟨s1, e1, k1, q1, m1, n1⟩ := m2_set (s := s) (c := 45) (by omega) (by omega) t0
    have K1 : KE [4, 5, 19, 20, 21] σ s1 := hK.tr (k1.wk (by decide))
    have h01 : s1.1 0 0 = nI F := by rw [K1 0 (by decide)]; exact h.1.2.1
    have kl : mX1_left s1 (nI g) = some (nI a) := gn_left h01 hF hg (by rw [K1 12 (by decide)]; exact c12) (by omega) (by omega) (by rw [K1 13 (by decide), f13]; exact x1)
    obtain ⟨s2, e2, k2, q2, z4, zi, z20, z21, m2, cov⟩ := m2_part h hT (o := 2) (rr := 0) (b := bb) (pl := pl + 1) K1 (by rw [k1 4 (by decide)]; exact h4) (by omega) (show a < F by omega) ea15 (fun s => by rw [hbb]; exact nb_2 s sa sa5) hva
    refine ⟨s2, [(a, pl + 1 + (if bb then 1 else 0))], ?_, (k1.wk (by decide)).tr k2, q2.trans q1, z4, fun rest hr => ⟨c, rfl, z20, z21, ?_⟩, ?_, fun x hx => ?_, m1.tr m2, fun pos h1 h2 => ?_⟩
    · have e2' : mX2_putPart s1 (nI 2) (nI a) (nI (pl + 1)) (nI 0) = some (nI (pl + 1 + (br bb (WT τ.1 a)).length), s2) := e2
      simp (implicitDefEqProofs := false) (disch := omega) only [mX2_putOne, ks, e1, kl, e2', ↓bnd_e, ↓ob_s, ob_s, su_1, su_2, sl_1, sl_2, ↓ck_n, ck_n, ck_Z0, ck_Z1, c_lt, c_le, c_eq, ng_1, m_ne, m_en, m_lt, m_le, m_gt, m_ge, n_add, n_mul, n_sub, n_sm, n_pm, n_0m, n_cl, Nat.reduceEqDiff, ↓reduceIte, nle_T, nle_F, nlt_T, nlt_F, neq_F, neq_T, if_true, if_false, true_and, and_true, Nat.mul_zero, Nat.zero_add, Nat.add_zero, Nat.reduceAdd, Nat.reduceMul, Nat.reduceSub, li_0, li_1, li_2, li_3, li_4, li_5, li_6, li_7, li_8, li_9, li_10, li_11, li_12, li_13, li_14, li_15, li_16, li_20, li_24, li_28, li_31, li_35, li_38, li_40, li_41, li_45, li_48, li_60, li_62, li_63, li_97, li_100, li_104, li_105, li_120, li_124, li_127, li_180, li_239, li_240, li_255, li_256, li_300, li_400, li_960, li_1000000]
    · exact SIt.c rest c hr (fun i hi => ⟨by rw [(zi i hi).1, k1 20 (by decide)], by rw [(zi i hi).2, k1 21 (by decide)]⟩)
    · show (WT τ.1 a).length + 0 + 1 ≤ _
      omega
    · rw [List.mem_singleton] at hx
      subst hx
      refine ⟨by show a < F; omega, fun i hi => ?_⟩
      show T[pl + 1 + (if bb then 1 else 0) + i]? = (WT τ.1 a)[i]?
      have := hva ((if bb then 1 else 0) + i) (by
        have : i < (WT τ.1 a).length := hi
        cases bb <;> simp at lb ⊢ <;> omega)
      rw [br_at bb _ hi] at this
      rw [← this]
      exact congrArg (fun k => T[k]?) (Nat.add_assoc _ _ _)
    · by_cases e : pos = pl
      · refine Or.inr ?_
        rw [e]; exact m2 pl n1
      · rcases cov pos (by omega) (by omega) with ⟨y1, y2⟩ | y
        · exact Or.inl ⟨_, List.mem_singleton.mpr rfl, y1, y2⟩
        · exact Or.inr y
  · have w := wt.2.2.2 s3 a b ha hb x1 x2
    obtain ⟨sa, sa5, ea15, _, _⟩ := h.st (show a < F by omega)
    obtain ⟨sb, sb5, eb15, _, _⟩ := h.st (show b < F by omega)
    rw [ea15, n_cl (by omega), eb15, n_cl (by omega)] at w
    obtain ⟨ba, hba⟩ : ∃ bb, bb = decide ((if sg = 5 then 5 else sg + 1) ≤ sa) := ⟨_, rfl⟩
    obtain ⟨bc, hbc⟩ : ∃ bb, bb = decide ((if sg = 5 then 6 else sg) ≤ sb) := ⟨_, rfl⟩
    rw [← hba, ← hbc] at w
    have lw : (WT τ.1 g).length = (br ba (WT τ.1 a)).length + ((br bc (WT τ.1 b)).length + 1) := by rw [w, List.length_append, List.length_cons]
    have lba := br_len ba (WT τ.1 a)
    have lbb := br_len bc (WT τ.1 b)
    have wa := WT_pos h (show a < F by omega)
    have wb := WT_pos h (show b < F by omega)
    obtain ⟨oc, oc128, oce⟩ := opb_v sg s3 s5
    rw [oce] at w
    have hva : ∀ i, i < (br ba (WT τ.1 a)).length → T[pl + i]? = (br ba (WT τ.1 a))[i]? := fun i hi => by
      have := hv i (by omega)
      rw [w, List.getElem?_append_left hi] at this; exact this
    have t0 : T[pl + (br ba (WT τ.1 a)).length]? = some (nI oc) := by
      have := hv (br ba (WT τ.1 a)).length (by omega)
      rw [w, List.getElem?_append_right (Nat.le_refl _), Nat.sub_self] at this; exact this
    have hvb : ∀ i, i < (br bc (WT τ.1 b)).length → T[pl + (br ba (WT τ.1 a)).length + 1 + i]? = (br bc (WT τ.1 b))[i]? := fun i hi => by
      have := hv ((br ba (WT τ.1 a)).length + (i + 1)) (by omega)
      rw [w, List.getElem?_append_right (by omega), Nat.add_sub_cancel_left, List.getElem?_cons_succ] at this
      have e : pl + (br ba (WT τ.1 a)).length + 1 + i = pl + ((br ba (WT τ.1 a)).length + (i + 1)) := by omega
      rw [e]; exact this
    have kl : mX1_left s (nI g) = some (nI a) := gn_left h00 hF hg (by rw [hK 12 (by decide)]; exact c12) (by omega) (by omega) (by rw [hK 13 (by decide), f13]; exact x1)
    obtain ⟨s1, e1, k1, q1, z4, zi, z20, z21, m1, cov1⟩ := m2_part h hT (o := sg) (rr := 0) (b := ba) (pl := pl) hK h4 (by omega) (show a < F by omega) ea15 (fun s => by rw [hba]; exact nb_l s sg sa s3 s5 sa5) hva
    obtain ⟨s2, e2, k2, q2, m2, n2⟩ := m2_set (s := s1) (c := oc) (pos := pl + (br ba (WT τ.1 a)).length) (by omega) oc128 t0
    have K2 : KE [4, 5, 19, 20, 21] σ s2 := (hK.tr (k1.wk (by decide))).tr (k2.wk (by decide))
    have h02 : s2.1 0 0 = nI F := by rw [K2 0 (by decide)]; exact h.1.2.1
    have kn : mX1_second s2 (nI g) = some (nI b) := by rw [gn_second h02 hF hg, K2 14 (by decide), f14, x2]
    obtain ⟨s3', e3, k3, q3, y4, yi, y20, y21, m3, cov3⟩ := m2_part h hT (o := sg) (rr := 1) (b := bc) (c := c + 1) (pl := pl + (br ba (WT τ.1 a)).length + 1) K2 (by rw [k2 4 (by decide)]; exact z4) (by omega) (show b < F by omega) eb15 (fun s => by rw [hbc]; exact nb_r s sg sb s3 s5 sb5) hvb
    refine ⟨s3', [(b, pl + (br ba (WT τ.1 a)).length + 1 + (if bc then 1 else 0)), (a, pl + (if ba then 1 else 0))], ?_, (k1.tr (k2.wk (by decide))).tr k3, q3.trans (q2.trans q1), y4, fun rest hr => ⟨c + 1, rfl, y20, y21, c, rfl, ?_, ?_, ?_⟩, ?_, fun x hx => ?_, (m1.tr m2).tr m3, fun pos h1 h2 => ?_⟩
    · have hs : sg = 3 ∨ sg = 4 ∨ sg = 5 := by omega
      have key : ∀ v, nI oc = v → mX2_putOne_135 s1 (nI g) (nI sg) (nI (pl + (br ba (WT τ.1 a)).length)) v (nI (pl + (br ba (WT τ.1 a)).length)) = some s3' := fun v ev => by
        rw [← ev]
        simp (implicitDefEqProofs := false) (disch := omega) only [mX2_putOne_135, e2, kn, e3, ↓bnd_e, ↓ob_s, ob_s, su_1, su_2, sl_1, sl_2, ↓ck_n, ck_n, ck_Z0, ck_Z1, c_lt, c_le, c_eq, ng_1, m_ne, m_en, m_lt, m_le, m_gt, m_ge, n_add, n_mul, n_sub, n_sm, n_pm, n_0m, n_cl, Nat.reduceEqDiff, ↓reduceIte, nle_T, nle_F, nlt_T, nlt_F, neq_F, neq_T, if_true, if_false, true_and, and_true, Nat.mul_zero, Nat.zero_add, Nat.add_zero, Nat.reduceAdd, Nat.reduceMul, Nat.reduceSub, li_0, li_1, li_2, li_3, li_4, li_5, li_6, li_7, li_8, li_9, li_10, li_11, li_12, li_13, li_14, li_15, li_16, li_20, li_24, li_28, li_31, li_35, li_38, li_40, li_41, li_45, li_48, li_60, li_62, li_63, li_97, li_100, li_104, li_105, li_120, li_124, li_127, li_180, li_239, li_240, li_255, li_256, li_300, li_400, li_960, li_1000000]
      rcases hs with rfl | rfl | rfl
      · have kk := key (nI 38) (by rw [← oce]; rfl)
        simp (implicitDefEqProofs := false) (disch := omega) only [mX2_putOne, ks, kl, e1, kk, ↓bnd_e, ↓ob_s, ob_s, su_1, su_2, sl_1, sl_2, ↓ck_n, ck_n, ck_Z0, ck_Z1, c_lt, c_le, c_eq, ng_1, m_ne, m_en, m_lt, m_le, m_gt, m_ge, n_add, n_mul, n_sub, n_sm, n_pm, n_0m, n_cl, Nat.reduceEqDiff, ↓reduceIte, nle_T, nle_F, nlt_T, nlt_F, neq_F, neq_T, if_true, if_false, true_and, and_true, Nat.mul_zero, Nat.zero_add, Nat.add_zero, Nat.reduceAdd, Nat.reduceMul, Nat.reduceSub, li_0, li_1, li_2, li_3, li_4, li_5, li_6, li_7, li_8, li_9, li_10, li_11, li_12, li_13, li_14, li_15, li_16, li_20, li_24, li_28, li_31, li_35, li_38, li_40, li_41, li_45, li_48, li_60, li_62, li_63, li_97, li_100, li_104, li_105, li_120, li_124, li_127, li_180, li_239, li_240, li_255, li_256, li_300, li_400, li_960, li_1000000]
      · have kk := key (nI 124) (by rw [← oce]; rfl)
        simp (implicitDefEqProofs := false) (disch := omega) only [mX2_putOne, ks, kl, e1, kk, ↓bnd_e, ↓ob_s, ob_s, su_1, su_2, sl_1, sl_2, ↓ck_n, ck_n, ck_Z0, ck_Z1, c_lt, c_le, c_eq, ng_1, m_ne, m_en, m_lt, m_le, m_gt, m_ge, n_add, n_mul, n_sub, n_sm, n_pm, n_0m, n_cl, Nat.reduceEqDiff, ↓reduceIte, nle_T, nle_F, nlt_T, nlt_F, neq_F, neq_T, if_true, if_false, true_and, and_true, Nat.mul_zero, Nat.zero_add, Nat.add_zero, Nat.reduceAdd, Nat.reduceMul, Nat.reduceSub, li_0, li_1, li_2, li_3, li_4, li_5, li_6, li_7, li_8, li_9, li_10, li_11, li_12, li_13, li_14, li_15, li_16, li_20, li_24, li_28, li_31, li_35, li_38, li_40, li_41, li_45, li_48, li_60, li_62, li_63, li_97, li_100, li_104, li_105, li_120, li_124, li_127, li_180, li_239, li_240, li_255, li_256, li_300, li_400, li_960, li_1000000]
      · have kk := key (nI 62) (by rw [← oce]; rfl)
        simp (implicitDefEqProofs := false) (disch := omega) only [mX2_putOne, ks, kl, e1, kk, ↓bnd_e, ↓ob_s, ob_s, su_1, su_2, sl_1, sl_2, ↓ck_n, ck_n, ck_Z0, ck_Z1, c_lt, c_le, c_eq, ng_1, m_ne, m_en, m_lt, m_le, m_gt, m_ge, n_add, n_mul, n_sub, n_sm, n_pm, n_0m, n_cl, Nat.reduceEqDiff, ↓reduceIte, nle_T, nle_F, nlt_T, nlt_F, neq_F, neq_T, if_true, if_false, true_and, and_true, Nat.mul_zero, Nat.zero_add, Nat.add_zero, Nat.reduceAdd, Nat.reduceMul, Nat.reduceSub, li_0, li_1, li_2, li_3, li_4, li_5, li_6, li_7, li_8, li_9, li_10, li_11, li_12, li_13, li_14, li_15, li_16, li_20, li_24, li_28, li_31, li_35, li_38, li_40, li_41, li_45, li_48, li_60, li_62, li_63, li_97, li_100, li_104, li_105, li_120, li_124, li_127, li_180, li_239, li_240, li_255, li_256, li_300, li_400, li_960, li_1000000]
    · rw [(yi c (by omega)).1, k2 20 (by decide)]; exact z20
    · rw [(yi c (by omega)).2, k2 21 (by decide)]; exact z21
    · exact SIt.c rest c hr (fun i hi => ⟨by rw [(yi i (by omega)).1, k2 20 (by decide), (zi i hi).1], by rw [(yi i (by omega)).2, k2 21 (by decide), (zi i hi).2]⟩)
    · show (WT τ.1 b).length + ((WT τ.1 a).length + 0) + 1 ≤ _
      omega
    · rcases List.mem_cons.mp hx with e | e
      · subst e
        refine ⟨by show b < F; omega, fun i hi => ?_⟩
        show T[pl + (br ba (WT τ.1 a)).length + 1 + (if bc then 1 else 0) + i]? = (WT τ.1 b)[i]?
        have := hvb ((if bc then 1 else 0) + i) (by
          have : i < (WT τ.1 b).length := hi
          cases bc <;> simp at lbb ⊢ <;> omega)
        rw [br_at bc _ hi] at this
        rw [← this]
        exact congrArg (fun k => T[k]?) (Nat.add_assoc _ _ _)
      · rw [List.mem_singleton] at e
        subst e
        refine ⟨by show a < F; omega, fun i hi => ?_⟩
        show T[pl + (if ba then 1 else 0) + i]? = (WT τ.1 a)[i]?
        have := hva ((if ba then 1 else 0) + i) (by
          have : i < (WT τ.1 a).length := hi
          cases ba <;> simp at lba ⊢ <;> omega)
        rw [br_at ba _ hi] at this
        rw [← this]
        exact congrArg (fun k => T[k]?) (Nat.add_assoc _ _ _)
    · by_cases c1 : pos < pl + (br ba (WT τ.1 a)).length
      · rcases cov1 pos h1 c1 with ⟨y1, y2⟩ | y
        · exact Or.inl ⟨_, List.mem_cons_of_mem _ (List.mem_singleton.mpr rfl), y1, y2⟩
        · exact Or.inr ((m2.tr m3) pos y)
      · by_cases c2 : pos = pl + (br ba (WT τ.1 a)).length
        · refine Or.inr ?_
          rw [c2]; exact m3 _ n2
        · rcases cov3 pos (by omega) (by omega) with ⟨y1, y2⟩ | y
          · exact Or.inl ⟨_, List.mem_cons_self .., y1, y2⟩
          · exact Or.inr y
theorem SIt.le {F : Nat} {σ τ : St} (h : RF F σ τ) {T : List Int32} {s : St} : ∀ l c, SIt s l c → (∀ x, x ∈ l → IVt F τ.1 T x) → c ≤ smW τ.1 l := by
  intro l
  induction l with
  | nil => intro c hc _; have : c = 0 := hc; omega
  | cons x r ih =>
    intro c hc hv
    obtain ⟨c', rfl, _, _, h3⟩ := hc
    have := ih c' h3 (fun y hy => hv y (List.mem_cons_of_mem _ hy))
    have := WT_pos h (hv x (List.mem_cons_self ..)).1
    show c' + 1 ≤ (WT τ.1 x.1).length + smW τ.1 r
    omega
/-- all that waits is written -/
theorem m2_walk {F : Nat} {σ τ : St} (h : RF F σ τ) {T : List Int32} (hT : T.length ≤ 400) : ∀ n k (s : St) items c, k + smW τ.1 items ≤ 400 → smW τ.1 items < n → KE [4, 5, 19, 20, 21] σ s → s.1 4 0 = nI c → SIt s items c → (∀ x, x ∈ items → IVt F τ.1 T x) →
    (∀ pos, pos < T.length → (∃ x, x ∈ items ∧ x.2 ≤ pos ∧ pos < x.2 + (WT τ.1 x.1).length) ∨ T[pos]? = some (s.1 19 pos)) →
    ∃ s', mX2_put_31 n s (nI k) = some s' ∧ KE [4, 19, 20, 21] s s' ∧ s'.2 = s.2 ∧ ∀ pos, pos < T.length → T[pos]? = some (s'.1 19 pos) := by
  intro n
  induction n with
  | zero => intro k s items c _ hn; omega
  | succ n ih =>
    intro k s items c hk hn hK h4 hS hV hcov
    cases items with
    | nil =>
      have hc : c = 0 := hS
      subst hc
      refine ⟨s, ?_, KE.rf, rfl, fun pos hp => ?_⟩
      · by_cases hk4 : 400 ≤ k
        · simp (implicitDefEqProofs := false) (disch := omega) only [fx_s, bX2_put_31, ↓bnd_e, ↓ob_s, ob_s, su_1, su_2, sl_1, sl_2, ↓ck_n, ck_n, ck_Z0, ck_Z1, c_lt, c_le, c_eq, ng_1, m_ne, m_en, m_lt, m_le, m_gt, m_ge, n_add, n_mul, n_sub, n_sm, n_pm, n_0m, n_cl, Nat.reduceEqDiff, ↓reduceIte, nle_T, nle_F, nlt_T, nlt_F, neq_F, neq_T, if_true, if_false, true_and, and_true, Nat.mul_zero, Nat.zero_add, Nat.add_zero, Nat.reduceAdd, Nat.reduceMul, Nat.reduceSub, li_0, li_1, li_2, li_3, li_4, li_5, li_6, li_7, li_8, li_9, li_10, li_11, li_12, li_13, li_14, li_15, li_16, li_20, li_24, li_28, li_31, li_35, li_38, li_40, li_41, li_45, li_48, li_60, li_62, li_63, li_97, li_100, li_104, li_105, li_120, li_124, li_127, li_180, li_239, li_240, li_255, li_256, li_300, li_400, li_960, li_1000000]
        · simp (implicitDefEqProofs := false) (disch := omega) only [fx_s, bX2_put_31, h4, ↓bnd_e, ↓ob_s, ob_s, su_1, su_2, sl_1, sl_2, ↓ck_n, ck_n, ck_Z0, ck_Z1, c_lt, c_le, c_eq, ng_1, m_ne, m_en, m_lt, m_le, m_gt, m_ge, n_add, n_mul, n_sub, n_sm, n_pm, n_0m, n_cl, Nat.reduceEqDiff, ↓reduceIte, nle_T, nle_F, nlt_T, nlt_F, neq_F, neq_T, if_true, if_false, true_and, and_true, Nat.mul_zero, Nat.zero_add, Nat.add_zero, Nat.reduceAdd, Nat.reduceMul, Nat.reduceSub, li_0, li_1, li_2, li_3, li_4, li_5, li_6, li_7, li_8, li_9, li_10, li_11, li_12, li_13, li_14, li_15, li_16, li_20, li_24, li_28, li_31, li_35, li_38, li_40, li_41, li_45, li_48, li_60, li_62, li_63, li_97, li_100, li_104, li_105, li_120, li_124, li_127, li_180, li_239, li_240, li_255, li_256, li_300, li_400, li_960, li_1000000]
      · rcases hcov pos hp with ⟨x, hx, _⟩ | e
        · exact absurd hx (by simp)
        · exact e
    | cons x r =>
      obtain ⟨c', rfl, y20, y21, hS'⟩ := hS
      have sm : smW τ.1 (x :: r) = (WT τ.1 x.1).length + smW τ.1 r := rfl
      rw [sm] at hk hn
      have hx := hV x (List.mem_cons_self ..)
      have wx := WT_pos h hx.1
      have hcr := SIt.le h r c' hS' (fun y hy => hV y (List.mem_cons_of_mem _ hy))
      obtain ⟨s1, es1⟩ : ∃ v, v = su s 4 (fun _ => nI c') := ⟨_, rfl⟩
      have k1 : KE [4] s s1 := by rw [es1]; exact KE.rf.s (by decide)
      have S1 : SIt s1 r c' := SIt.c r c' hS' (fun i _ => ⟨by rw [k1 20 (by decide)], by rw [k1 21 (by decide)]⟩)
      obtain ⟨s2, its, e2, k2, q2, z4, zS, zm, zV, zc, zcov⟩ := m2_one h hT (s := s1) (c := c') (g := x.1) (pl := x.2) (hK.tr (k1.wk (by decide))) (by rw [es1]; rfl) hx.1 (by omega) hx.2
      have K2 : KE [4, 5, 19, 20, 21] σ s2 := (hK.tr (k1.wk (by decide))).tr (k2.wk (by decide))
      obtain ⟨s', a1, a2, a3, a4⟩ := ih (k + 1) s2 (its ++ r) (c' + its.length) (by rw [smW_app]; omega) (by rw [smW_app]; omega) K2 z4 (zS r S1) (fun y hy => by
        rcases List.mem_append.mp hy with e | e
        · exact zV y e
        · exact hV y (List.mem_cons_of_mem _ e)) (fun pos hp => by
        rcases hcov pos hp with ⟨y, hy, y1, y2⟩ | e
        · rcases List.mem_cons.mp hy with e | e
          · subst e
            rcases zcov pos y1 y2 with ⟨u, hu, u1, u2⟩ | e2
            · exact Or.inl ⟨u, List.mem_append.mpr (Or.inl hu), u1, u2⟩
            · exact Or.inr e2
          · exact Or.inl ⟨y, List.mem_append.mpr (Or.inr e), y1, y2⟩
        · refine Or.inr (zc pos ?_)
          rw [k1 19 (by decide)]; exact e)
      refine ⟨s', ?_, ((k1.wk (by decide)).tr k2).tr a2, a3.trans (q2.trans (by rw [es1]; rfl)), a4⟩
      rw [← a1]
      rw [es1] at e2
      simp (implicitDefEqProofs := false) (disch := omega) only [fx_s, bX2_put_31, h4, y20, y21, e2, Nat.add_sub_cancel, ↓bnd_e, ↓ob_s, ob_s, su_1, su_2, sl_1, sl_2, ↓ck_n, ck_n, ck_Z0, ck_Z1, c_lt, c_le, c_eq, ng_1, m_ne, m_en, m_lt, m_le, m_gt, m_ge, n_add, n_mul, n_sub, n_sm, n_pm, n_0m, n_cl, Nat.reduceEqDiff, ↓reduceIte, nle_T, nle_F, nlt_T, nlt_F, neq_F, neq_T, if_true, if_false, true_and, and_true, Nat.mul_zero, Nat.zero_add, Nat.add_zero, Nat.reduceAdd, Nat.reduceMul, Nat.reduceSub, li_0, li_1, li_2, li_3, li_4, li_5, li_6, li_7, li_8, li_9, li_10, li_11, li_12, li_13, li_14, li_15, li_16, li_20, li_24, li_28, li_31, li_35, li_38, li_40, li_41, li_45, li_48, li_60, li_62, li_63, li_97, li_100, li_104, li_105, li_120, li_124, li_127, li_180, li_239, li_240, li_255, li_256, li_300, li_400, li_960, li_1000000]
theorem P_write {σ τ : St} (h : RR σ τ) (p1 : Int32) : (∃ (r : Int32) (σ' : St) (τ' : St), mX7_write σ p1 = some (r, σ') ∧ mX8_write τ p1 = some (r, τ') ∧ τ'.1 0 0 = 0 ∧ RR σ' τ') ∨ (∃ (v : Int32) (σ' : St) (τ' : St), tX7_write σ p1 = some (3, σ') ∧ mX8_write τ p1 = some (v, τ') ∧ τ'.1 0 0 = 1 ∧ RR σ' τ') ∨ (∃ (v : Int32) (σ' : St) (τ' : St), tX7_write σ p1 = some (1, σ') ∧ mX8_write τ p1 = some (v, τ') ∧ τ'.1 0 0 = 2 ∧ RR σ' τ') := by
  have h0 := h
  have hR2 := fun v w => RR_thr (RR_thr h v) w
  obtain ⟨F, T, hf, ht, hp, hh, hv⟩ := h
  have hF := hf.le
  have z5 : (su τ 0 (fun _ => nI 0)).1 5 0 = nI F := hf.1.2.2
  rcases kn_rel hf p1 with ⟨f, hff, rfl, k1, k8⟩ | ⟨k1, k8⟩
  · have k8' := k8 _ z5
    have kz : KE [0, 12] τ (su (su τ 0 (fun _ => nI 0)) 12 (fun _ => nI 0)) := (KE.rf.s (by decide)).s (by decide)
    have hf' : RF F σ (su (su τ 0 (fun _ => nI 0)) 12 (fun _ => nI 0)) := hf.c (fun _ _ => rfl) rfl (.k kz (by decide))
    have eWT : WT (su (su τ 0 (fun _ => nI 0)) 12 (fun _ => nI 0)).1 f = WT τ.1 f := wr_c hF (fun c j a b _ => by
      have : c = 15 ∨ c = 16 ∨ c = 17 := by omega
      rw [kz c (by rcases this with rfl | rfl | rfl <;> decide)]) hf.ag _ f hff
    obtain ⟨sf, sf5, e15, _⟩ := hf.st hff
    obtain ⟨t', D', e8, ap, _, _⟩ := m8_put hf' 256 f 6 _ 0 hff (by omega) (by omega) KE.rf rfl (by omega)
    have e15' : (su (su τ 0 (fun _ => nI 0)) 12 (fun _ => nI 0)).1 15 f = nI sf := e15
    rw [eWT, e15', n_cl (by omega), show decide (6 ≤ sf) = false from decide_eq_false (by omega)] at ap
    have eb : br false (WT τ.1 f) = WT τ.1 f := rfl
    rw [eb] at ap
    obtain ⟨a1, a2, a3, a4⟩ := ap
    have e8' : mX8_put_ (su (su τ 0 (fun _ => nI 0)) 12 (fun _ => nI 0)) (nI f) (nI 6) = some t' := e8
    have w17 : σ.1 17 f = nI (min 1000000 (WT τ.1 f).length) := (hf.2.1 f hff).2.2.2.1
    have kw : mX1_width σ (nI f) = some (nI (min 1000000 (WT τ.1 f).length)) := by rw [gn_width hf.1.2.1 hF hff, w17]
    have kt' : KE [0, 12, 38] τ t' := (kz.wk (by decide)).tr (a1.wk (by decide))
    by_cases hw : (WT τ.1 f).length ≤ 400
    · have hmin : min 1000000 (WT τ.1 f).length = (WT τ.1 f).length := by omega
      rw [hmin] at kw
      obtain ⟨b1, b2, b3⟩ := a3 (by omega)
      rw [Nat.zero_add] at b1
      have w1 := WT_pos hf hff
      -- the class
      obtain ⟨s0, es0⟩ : ∃ v, v = su (su σ 5 (fun _ => nI (WT τ.1 f).length)) 4 (fun _ => nI 0) := ⟨_, rfl⟩
      obtain ⟨s1, es1⟩ : ∃ v, v = su (su (su s0 20 (upd (s0.1 20) 0 (nI f))) 21 (upd (s0.1 21) 0 (nI 0))) 4 (fun _ => nI 1) := ⟨_, rfl⟩
      have ew : mX2_addWaiting s0 (nI f) (nI 0) = some s1 := by
        rw [es1]; exact m2_wait (c := 0) (by rw [es0]; rfl) (by omega)
      have ks1 : KE [4, 5, 20, 21] σ s1 := by rw [es1, es0]; exact ((((KE.rf.s (by decide)).s (by decide)).s (by decide)).s (by decide)).s (by decide)
      obtain ⟨s', c1, c2, c3, c4⟩ := m2_walk hf (T := WT τ.1 f) hw NF 0 s1 [(f, 0)] 1 (by show 0 + ((WT τ.1 f).length + 0) ≤ 400; omega) (by show (WT τ.1 f).length + 0 < 1000; omega) (ks1.wk (by decide)) (by rw [es1]; rfl) ⟨0, rfl, by rw [es1]; rfl, by rw [es1]; rfl, rfl⟩
        (fun x hx => by
          rw [List.mem_singleton] at hx
          subst hx
          exact ⟨hff, fun i hi => by show (WT τ.1 f)[0 + i]? = _; rw [Nat.zero_add]⟩)
        (fun pos hp => Or.inl ⟨(f, 0), List.mem_singleton.mpr rfl, Nat.zero_le _, by show pos < 0 + (WT τ.1 f).length; omega⟩)
      have kσ : KE [4, 5, 19, 20, 21] σ s' := (ks1.wk (by decide)).tr (c2.wk (by decide))
      have s5 : s'.1 5 0 = nI (WT τ.1 f).length := by rw [c2 5 (by decide), es1, es0]; rfl
      have q2 : s'.2 = σ.2 := by rw [c3, es1, es0]; rfl
      have eput : mX2_put σ (nI f) = some s' := by
        have i1 : (if nI (WT τ.1 f).length < (400 : Int32) then nI (WT τ.1 f).length else 400) = nI (WT τ.1 f).length := by
          rw [show (400 : Int32) = nI 400 from rfl]
          by_cases h : (WT τ.1 f).length < 400
          · rw [if_pos (by rw [c_lt (by omega) (by omega)]; exact h)]
          · have : (WT τ.1 f).length = 400 := by omega
            rw [this]; decide
        unfold mX2_put
        rw [kw, ob_s, i1, bnd_e, bnd_e]
        have ew' : mX2_addWaiting (su (su σ 5 (fun _ => nI (WT τ.1 f).length)) 4 (fun _ => 0)) (nI f) 0 = some s1 := by rw [← ew, es0]; rfl
        rw [ew', ob_s]
        exact c1
      -- the reference
      obtain ⟨τ', et⟩ : ∃ v, v = su (su t' 14 (va_cpy (t'.1 38) (t'.1 14) 0 0 (WT τ.1 f).length)) 4 (fun _ => nI (WT τ.1 f).length) := ⟨_, rfl⟩
      have kτ : KE [0, 12, 38, 14, 4] τ τ' := by rw [et]; exact ((kt'.wk (by decide)).s (by decide)).s (by decide)
      have t14 : ∀ k, k < (WT τ.1 f).length → τ'.1 14 k = t'.1 38 k := fun k hk => by
        rw [et]
        show va_cpy (t'.1 38) (t'.1 14) 0 0 (WT τ.1 f).length k = _
        exact sb_cpy0 hk
      have cl : ∀ (x : Option (Int32 × St)), chkL (nI (WT τ.1 f).length) 400 x = x := fun x => by
        unfold chkL
        rw [if_neg]
        rw [n_cl (by omega)]
        rintro (e | e)
        · exact nI_pos (by omega) e
        · omega
      refine Or.inl ⟨nI (WT τ.1 f).length, s', τ', ?_, ?_, ?_, F, T, hf.c (.k kσ (by decide)) q2 (.k kτ (by decide)), ht.c (.k kσ (by decide)) (.k kτ (by decide)), ⟨(WT τ.1 f).length, hw, s5, by rw [et]; rfl, fun k hk => ?_⟩, hh.c (Nat.le_refl _) (.k kσ (by decide)) (.k kτ (by decide)), hv.c hh.1.1 (Nat.le_refl _) (.k kσ (by decide)) (.k kτ (by decide))⟩
      · simp (implicitDefEqProofs := false) (disch := omega) only [mX7_write, k1, kw, eput, mX2_size, s5, ↓bnd_e, ↓ob_s, ob_s, su_1, su_2, sl_1, sl_2, ↓ck_n, ck_n, ck_Z0, ck_Z1, c_lt, c_le, c_eq, ng_1, m_ne, m_en, m_lt, m_le, m_gt, m_ge, n_add, n_mul, n_sub, n_sm, n_pm, n_0m, n_cl, Nat.reduceEqDiff, ↓reduceIte, nle_T, nle_F, nlt_T, nlt_F, neq_F, neq_T, if_true, if_false, true_and, and_true, Nat.mul_zero, Nat.zero_add, Nat.add_zero, Nat.reduceAdd, Nat.reduceMul, Nat.reduceSub, li_0, li_1, li_2, li_3, li_4, li_5, li_6, li_7, li_8, li_9, li_10, li_11, li_12, li_13, li_14, li_15, li_16, li_20, li_24, li_28, li_31, li_35, li_38, li_40, li_41, li_45, li_48, li_60, li_62, li_63, li_97, li_100, li_104, li_105, li_120, li_124, li_127, li_180, li_239, li_240, li_255, li_256, li_300, li_400, li_960, li_1000000]
      · rw [et]
        rw [b1] at a2
        simp (implicitDefEqProofs := false) (disch := omega) only [mX8_write, k8', e8', a2, cl, ↓bnd_e, ↓ob_s, ob_s, su_1, su_2, sl_1, sl_2, ↓ck_n, ck_n, ck_Z0, ck_Z1, c_lt, c_le, c_eq, ng_1, m_ne, m_en, m_lt, m_le, m_gt, m_ge, n_add, n_mul, n_sub, n_sm, n_pm, n_0m, n_cl, Nat.reduceEqDiff, ↓reduceIte, nle_T, nle_F, nlt_T, nlt_F, neq_F, neq_T, if_true, if_false, true_and, and_true, Nat.mul_zero, Nat.zero_add, Nat.add_zero, Nat.reduceAdd, Nat.reduceMul, Nat.reduceSub, li_0, li_1, li_2, li_3, li_4, li_5, li_6, li_7, li_8, li_9, li_10, li_11, li_12, li_13, li_14, li_15, li_16, li_20, li_24, li_28, li_31, li_35, li_38, li_40, li_41, li_45, li_48, li_60, li_62, li_63, li_97, li_100, li_104, li_105, li_120, li_124, li_127, li_180, li_239, li_240, li_255, li_256, li_300, li_400, li_960, li_1000000]
      · rw [et]
        show t'.1 0 0 = _
        rw [a1 0 (by decide)]; rfl
      · have x := c4 k hk
        have y := b3 k hk
        rw [Nat.zero_add] at y
        rw [x] at y
        rw [t14 k hk]
        exact Option.some.inj y
    · have hD := a4 (by omega)
      have hD2 : D' ≤ 2000 := by
        obtain ⟨t2, D2, e9, ap2, x, _⟩ := m8_put hf' 256 f 6 _ 0 hff (by omega) (by omega) KE.rf rfl (by omega)
        rw [e8] at e9
        have e10 := Option.some.inj e9
        have a22 := ap2.2.1
        rw [← e10, a2] at a22
        by_cases hbig : D' < 2147483648
        · rw [c_eq hbig (by omega)] at a22; omega
        · omega
      refine Or.inr (Or.inr ⟨nI 0, σ, su t' 0 (fun _ => nI 2), ?_, ?_, rfl, h0.c KE.rf rfl ((kt'.wk (by decide)).s (by decide))⟩)
      · simp (implicitDefEqProofs := false) (disch := omega) only [tX7_write, k1, kw, ↓bnd_e, ↓ob_s, ob_s, su_1, su_2, sl_1, sl_2, ↓ck_n, ck_n, ck_Z0, ck_Z1, c_lt, c_le, c_eq, ng_1, m_ne, m_en, m_lt, m_le, m_gt, m_ge, n_add, n_mul, n_sub, n_sm, n_pm, n_0m, n_cl, Nat.reduceEqDiff, ↓reduceIte, nle_T, nle_F, nlt_T, nlt_F, neq_F, neq_T, if_true, if_false, true_and, and_true, Nat.mul_zero, Nat.zero_add, Nat.add_zero, Nat.reduceAdd, Nat.reduceMul, Nat.reduceSub, li_0, li_1, li_2, li_3, li_4, li_5, li_6, li_7, li_8, li_9, li_10, li_11, li_12, li_13, li_14, li_15, li_16, li_20, li_24, li_28, li_31, li_35, li_38, li_40, li_41, li_45, li_48, li_60, li_62, li_63, li_97, li_100, li_104, li_105, li_120, li_124, li_127, li_180, li_239, li_240, li_255, li_256, li_300, li_400, li_960, li_1000000]
      · simp (implicitDefEqProofs := false) (disch := omega) only [mX8_write, k8', e8', a2, mX8_no, ↓bnd_e, ↓ob_s, ob_s, su_1, su_2, sl_1, sl_2, ↓ck_n, ck_n, ck_Z0, ck_Z1, c_lt, c_le, c_eq, ng_1, m_ne, m_en, m_lt, m_le, m_gt, m_ge, n_add, n_mul, n_sub, n_sm, n_pm, n_0m, n_cl, Nat.reduceEqDiff, ↓reduceIte, nle_T, nle_F, nlt_T, nlt_F, neq_F, neq_T, if_true, if_false, true_and, and_true, Nat.mul_zero, Nat.zero_add, Nat.add_zero, Nat.reduceAdd, Nat.reduceMul, Nat.reduceSub, li_0, li_1, li_2, li_3, li_4, li_5, li_6, li_7, li_8, li_9, li_10, li_11, li_12, li_13, li_14, li_15, li_16, li_20, li_24, li_28, li_31, li_35, li_38, li_40, li_41, li_45, li_48, li_60, li_62, li_63, li_97, li_100, li_104, li_105, li_120, li_124, li_127, li_180, li_239, li_240, li_255, li_256, li_300, li_400, li_960, li_1000000]
  · have k8' := k8 _ z5
    refine Or.inr (Or.inl ⟨nI 0, σ, su (su τ 0 (fun _ => nI 0)) 0 (fun _ => nI 1), ?_, ?_, rfl, hR2 _ _⟩)
    · simp (implicitDefEqProofs := false) (disch := omega) only [tX7_write, k1, ↓bnd_e, ↓ob_s, ob_s, su_1, su_2, sl_1, sl_2, ↓ck_n, ck_n, ck_Z0, ck_Z1, c_lt, c_le, c_eq, ng_1, m_ne, m_en, m_lt, m_le, m_gt, m_ge, n_add, n_mul, n_sub, n_sm, n_pm, n_0m, n_cl, Nat.reduceEqDiff, ↓reduceIte, nle_T, nle_F, nlt_T, nlt_F, neq_F, neq_T, if_true, if_false, true_and, and_true, Nat.mul_zero, Nat.zero_add, Nat.add_zero, Nat.reduceAdd, Nat.reduceMul, Nat.reduceSub, li_0, li_1, li_2, li_3, li_4, li_5, li_6, li_7, li_8, li_9, li_10, li_11, li_12, li_13, li_14, li_15, li_16, li_20, li_24, li_28, li_31, li_35, li_38, li_40, li_41, li_45, li_48, li_60, li_62, li_63, li_97, li_100, li_104, li_105, li_120, li_124, li_127, li_180, li_239, li_240, li_255, li_256, li_300, li_400, li_960, li_1000000]
    · simp (implicitDefEqProofs := false) (disch := omega) only [mX8_write, mX8_no, k8', ↓bnd_e, ↓ob_s, ob_s, su_1, su_2, sl_1, sl_2, ↓ck_n, ck_n, ck_Z0, ck_Z1, c_lt, c_le, c_eq, ng_1, m_ne, m_en, m_lt, m_le, m_gt, m_ge, n_add, n_mul, n_sub, n_sm, n_pm, n_0m, n_cl, Nat.reduceEqDiff, ↓reduceIte, nle_T, nle_F, nlt_T, nlt_F, neq_F, neq_T, if_true, if_false, true_and, and_true, Nat.mul_zero, Nat.zero_add, Nat.add_zero, Nat.reduceAdd, Nat.reduceMul, Nat.reduceSub, li_0, li_1, li_2, li_3, li_4, li_5, li_6, li_7, li_8, li_9, li_10, li_11, li_12, li_13, li_14, li_15, li_16, li_20, li_24, li_28, li_31, li_35, li_38, li_40, li_41, li_45, li_48, li_60, li_62, li_63, li_97, li_100, li_104, li_105, li_120, li_124, li_127, li_180, li_239, li_240, li_255, li_256, li_300, li_400, li_960, li_1000000]
