/-- bit k of a long -/
def btL (x : Int64) (k : Nat) : Bool := x.toBitVec.getLsbD k
theorem btL_and (x y : Int64) (k : Nat) : btL (x &&& y) k = (btL x k && btL y k) := by
  unfold btL; rw [Int64.toBitVec_and, BitVec.getLsbD_and]
theorem btL_or (x y : Int64) (k : Nat) : btL (x ||| y) k = (btL x k || btL y k) := by
  unfold btL; rw [Int64.toBitVec_or, BitVec.getLsbD_or]
theorem btL_not (x : Int64) (k : Nat) (hk : k < 64) : btL (x ^^^ (-1)) k = !btL x k := by
  unfold btL
  rw [Int64.toBitVec_xor, BitVec.getLsbD_xor]
  have : (-1 : Int64).toBitVec = BitVec.allOnes 64 := by decide
  rw [this, BitVec.getLsbD_allOnes]
  simp [hk]
theorem btL_0 (k : Nat) : btL 0 k = false := by
  unfold btL
  have : (0 : Int64).toBitVec = 0#64 := by decide
  rw [this]; simp
theorem orI (a b : Nat) : nI a ||| nI b = nI (a ||| b) := by
  apply Int32.toBitVec_inj.1
  show BitVec.ofNat 32 a ||| BitVec.ofNat 32 b = BitVec.ofNat 32 (a ||| b)
  apply BitVec.eq_of_getLsbD_eq
  intro i hi
  simp [hi]
theorem orix {j q : Nat} (hj : j < 8388607) (hq : q < 256) : (nI j <<< (nI 8 &&& nI 31)) ||| nI q = nI (256 * j + q) := by
  have e : nI j <<< (nI 8 &&& nI 31) = nI (j * 2 ^ 8) := pk_shlN _ 8 (by decide) (by omega)
  rw [e, orI, Nat.mul_comm]
  have := (Nat.two_pow_add_eq_or_of_lt (i := 8) (b := q) (by omega) j).symm
  rw [this]
/-- the arguments of a new formula, of which the parts are below F -/
def AG (F s : Nat) (x y : Int32) : Prop :=
  (s = 0 ∧ ∃ l, l < 8 ∧ x = nI l ∧ y = mI) ∨ (s = 1 ∧ x = mI ∧ y = mI) ∨ (s = 2 ∧ ∃ p, p < F ∧ x = nI p ∧ y = mI)
    ∨ (3 ≤ s ∧ s ≤ 5 ∧ ∃ p q, p < F ∧ q < F ∧ x = nI p ∧ y = nI q)
/-- a part in brackets, if it needs them -/
def br (b : Bool) (l : List Int32) : List Int32 := if b then nI 40 :: (l ++ [nI 41]) else l
def opb (s : Nat) : Int32 := if s = 3 then nI 38 else if s = 4 then nI 124 else nI 62
/-- the writing of a formula: g 15, 16, 17 are its sort and its parts -/
def wr (g : Nat → Nat → Int32) : Nat → Nat → List Int32
  | 0, _ => []
  | n + 1, j =>
    let s := (g 15 j).toNatClampNeg
    let p := (g 16 j).toNatClampNeg
    let q := (g 17 j).toNatClampNeg
    if s = 0 then [nI (97 + p)] else if s = 1 then [nI 35]
    else if s = 2 then nI 45 :: br (decide (3 ≤ (g 15 p).toNatClampNeg)) (wr g n p)
    else br (decide ((if s = 5 then 5 else s + 1) ≤ (g 15 p).toNatClampNeg)) (wr g n p) ++ opb s :: br (decide ((if s = 5 then 6 else s) ≤ (g 15 q).toNatClampNeg)) (wr g n q)
def WT (g : Nat → Nat → Int32) (j : Nat) : List Int32 := wr g (j + 1) j
/-- what is told of one formula -/
def FJ (σ τ : St) (j : Nat) : Prop :=
  (σ.1 12 j = τ.1 15 j ∧ σ.1 13 j = τ.1 16 j ∧ σ.1 14 j = τ.1 17 j ∧ σ.1 15 j = τ.1 18 j ∧ σ.1 16 j = τ.1 19 j) ∧
  (∃ s, s ≤ 5 ∧ τ.1 15 j = nI s ∧ AG j s (τ.1 16 j) (τ.1 17 j) ∧
    (s = 0 → τ.1 18 j = (1 : Int32) <<< (τ.1 16 j &&& 31)) ∧ (s = 1 → τ.1 18 j = nI 0) ∧
    (s = 2 → τ.1 18 j = τ.1 18 (τ.1 16 j).toNatClampNeg ||| nI 0) ∧
    (3 ≤ s → τ.1 18 j = τ.1 18 (τ.1 16 j).toNatClampNeg ||| τ.1 18 (τ.1 17 j).toNatClampNeg)) ∧
  (∃ z, 1 ≤ z ∧ z ≤ 1000000 ∧ τ.1 19 j = nI z) ∧
  σ.1 17 j = nI (min 1000000 (WT τ.1 j).length) ∧
  ∀ q, q < 256 → τ.1 20 (256 * j + q) = if btL (σ.2 (4 * j + q / 64)) (q % 64) then nI 1 else nI 0
/-- the formulas of both sides -/
def RF (F : Nat) (σ τ : St) : Prop :=
  (F ≤ 240 ∧ σ.1 0 0 = nI F ∧ τ.1 5 0 = nI F) ∧ (∀ j, j < F → FJ σ τ j) ∧
  ∀ i j, i < F → j < F → τ.1 15 i = τ.1 15 j → τ.1 16 i = τ.1 16 j → τ.1 17 i = τ.1 17 j → i = j
/-- nothing below F has changed: the class's side, the other side -/
def PF (F : Nat) (σ σ' : St) : Prop := (∀ c j, 12 ≤ c → c ≤ 17 → j < F → σ'.1 c j = σ.1 c j) ∧ ∀ i, i < 4 * F → σ'.2 i = σ.2 i
def PM (F : Nat) (τ τ' : St) : Prop := (∀ c j, 15 ≤ c → c ≤ 19 → j < F → τ'.1 c j = τ.1 c j) ∧ ∀ i, i < 256 * F → τ'.1 20 i = τ.1 20 i
theorem PF.rf {F : Nat} {σ : St} : PF F σ σ := ⟨fun _ _ _ _ _ => rfl, fun _ _ => rfl⟩
theorem PM.rf {F : Nat} {σ : St} : PM F σ σ := ⟨fun _ _ _ _ _ => rfl, fun _ _ => rfl⟩
theorem PF.tr {F : Nat} {σ s u : St} (h : PF F σ s) (h' : PF F s u) : PF F σ u :=
  ⟨fun c j a b d => (h'.1 c j a b d).trans (h.1 c j a b d), fun i hi => (h'.2 i hi).trans (h.2 i hi)⟩
theorem PM.tr {F : Nat} {σ s u : St} (h : PM F σ s) (h' : PM F s u) : PM F σ u :=
  ⟨fun c j a b d => (h'.1 c j a b d).trans (h.1 c j a b d), fun i hi => (h'.2 i hi).trans (h.2 i hi)⟩
theorem PF.le {F G : Nat} {σ s : St} (h : PF F σ s) (hG : G ≤ F) : PF G σ s :=
  ⟨fun c j a b d => h.1 c j a b (by omega), fun i hi => h.2 i (by omega)⟩
theorem PM.le {F G : Nat} {σ s : St} (h : PM F σ s) (hG : G ≤ F) : PM G σ s :=
  ⟨fun c j a b d => h.1 c j a b (by omega), fun i hi => h.2 i (by omega)⟩
theorem PF.s {F : Nat} {σ s : St} (h : PF F σ s) (c k : Nat) (v : Int32) (hk : F ≤ k) : PF F σ (su s c (upd (s.1 c) k v)) := by
  refine ⟨fun c' j a b d => ?_, h.2⟩
  rw [su_1]
  by_cases e : c' = c
  · subst e; rw [if_pos rfl, pk_un (by omega)]; exact h.1 _ j a b d
  · rw [if_neg e]; exact h.1 _ j a b d
theorem PF.o {F : Nat} {σ s : St} (h : PF F σ s) (c : Nat) (f : Nat → Int32) (hc : c < 12 ∨ 17 < c) : PF F σ (su s c f) := by
  refine ⟨fun c' j a b d => ?_, h.2⟩
  rw [su_1, if_neg (by omega)]; exact h.1 _ j a b d
theorem PF.l {F : Nat} {σ s : St} (h : PF F σ s) (k : Nat) (v : Int64) (hk : 4 * F ≤ k) : PF F σ (sl s (vp_updL s.2 k v)) := by
  refine ⟨h.1, fun i hi => ?_⟩
  rw [sl_2, pk_uLn (by omega)]; exact h.2 i hi
theorem PM.s {F : Nat} {σ s : St} (h : PM F σ s) (c k : Nat) (v : Int32) (hc : c ≠ 20) (hk : F ≤ k) : PM F σ (su s c (upd (s.1 c) k v)) := by
  refine ⟨fun c' j a b d => ?_, fun i hi => ?_⟩
  · rw [su_1]
    by_cases e : c' = c
    · subst e; rw [if_pos rfl, pk_un (by omega)]; exact h.1 _ j a b d
    · rw [if_neg e]; exact h.1 _ j a b d
  · rw [su_1, if_neg (by omega)]; exact h.2 i hi
theorem PM.o {F : Nat} {σ s : St} (h : PM F σ s) (c : Nat) (f : Nat → Int32) (hc : c < 15 ∨ 20 < c) : PM F σ (su s c f) := by
  refine ⟨fun c' j a b d => ?_, fun i hi => ?_⟩
  · rw [su_1, if_neg (by omega)]; exact h.1 _ j a b d
  · rw [su_1, if_neg (by omega)]; exact h.2 i hi
theorem PM.t {F : Nat} {σ s : St} (h : PM F σ s) (k : Nat) (v : Int32) (hk : 256 * F ≤ k) : PM F σ (su s 20 (upd (s.1 20) k v)) := by
  refine ⟨fun c' j a b d => ?_, fun i hi => ?_⟩
  · rw [su_1, if_neg (by omega)]; exact h.1 _ j a b d
  · rw [su_1, if_pos rfl, pk_un (by omega)]; exact h.2 i hi
/-- the writing looks at the parts alone -/
theorem wr_c {g g' : Nat → Nat → Int32} {F : Nat} (hF : F ≤ 240) (hg : ∀ c j, 15 ≤ c → c ≤ 17 → j < F → g' c j = g c j)
    (hp : ∀ j, j < F → ∃ s, s ≤ 5 ∧ g 15 j = nI s ∧ AG j s (g 16 j) (g 17 j)) : ∀ n j, j < F → wr g' n j = wr g n j := by
  intro n
  induction n with
  | zero => intro j _; rfl
  | succ n ih =>
    intro j hj
    obtain ⟨s, hs, e, ha⟩ := hp j hj
    have e5 := hg 15 j (by omega) (by omega) hj
    have e6 := hg 16 j (by omega) (by omega) hj
    have e7 := hg 17 j (by omega) (by omega) hj
    rcases ha with ⟨rfl, l, hl, h1, h2⟩ | ⟨rfl, h1, h2⟩ | ⟨rfl, p, hl, h1, h2⟩ | ⟨h3, h4, p, q, hl, hq, h1, h2⟩
    · simp (disch := omega) only [wr, e5, e6, e7, e, h1, h2, bnd_e, ob_s, su_1, su_2, sl_1, sl_2, ck_n, ck_Z0, ck_Z1, c_lt, c_le, c_eq, ng_1, m_ne, m_en, m_lt, m_le, m_gt, m_ge, n_add, n_mul, n_sub, n_sm, n_pm, n_0m, n_cl, Nat.reduceEqDiff, reduceIte, if_pos, if_neg, if_true, if_false, true_and, and_true, Nat.mul_zero, Nat.zero_add, Nat.add_zero, Nat.reduceAdd, Nat.reduceMul, Nat.reduceSub, li_0, li_1, li_2, li_3, li_4, li_5, li_6, li_7, li_8, li_9, li_10, li_11, li_12, li_13, li_14, li_15, li_16, li_20, li_24, li_28, li_31, li_35, li_38, li_40, li_41, li_45, li_48, li_60, li_62, li_63, li_97, li_100, li_104, li_105, li_120, li_124, li_127, li_180, li_239, li_240, li_255, li_256, li_300, li_400, li_960, li_1000000]
    · simp (disch := omega) only [wr, e5, e6, e7, e, h1, h2, bnd_e, ob_s, su_1, su_2, sl_1, sl_2, ck_n, ck_Z0, ck_Z1, c_lt, c_le, c_eq, ng_1, m_ne, m_en, m_lt, m_le, m_gt, m_ge, n_add, n_mul, n_sub, n_sm, n_pm, n_0m, n_cl, Nat.reduceEqDiff, reduceIte, if_pos, if_neg, if_true, if_false, true_and, and_true, Nat.mul_zero, Nat.zero_add, Nat.add_zero, Nat.reduceAdd, Nat.reduceMul, Nat.reduceSub, li_0, li_1, li_2, li_3, li_4, li_5, li_6, li_7, li_8, li_9, li_10, li_11, li_12, li_13, li_14, li_15, li_16, li_20, li_24, li_28, li_31, li_35, li_38, li_40, li_41, li_45, li_48, li_60, li_62, li_63, li_97, li_100, li_104, li_105, li_120, li_124, li_127, li_180, li_239, li_240, li_255, li_256, li_300, li_400, li_960, li_1000000]
    · have a1 := ih p (by omega)
      have a2 := hg 15 p (by omega) (by omega) (by omega)
      simp (disch := omega) only [wr, e5, e6, e7, e, h1, h2, bnd_e, ob_s, su_1, su_2, sl_1, sl_2, ck_n, ck_Z0, ck_Z1, c_lt, c_le, c_eq, ng_1, m_ne, m_en, m_lt, m_le, m_gt, m_ge, n_add, n_mul, n_sub, n_sm, n_pm, n_0m, n_cl, Nat.reduceEqDiff, reduceIte, if_pos, if_neg, if_true, if_false, true_and, and_true, Nat.mul_zero, Nat.zero_add, Nat.add_zero, Nat.reduceAdd, Nat.reduceMul, Nat.reduceSub, li_0, li_1, li_2, li_3, li_4, li_5, li_6, li_7, li_8, li_9, li_10, li_11, li_12, li_13, li_14, li_15, li_16, li_20, li_24, li_28, li_31, li_35, li_38, li_40, li_41, li_45, li_48, li_60, li_62, li_63, li_97, li_100, li_104, li_105, li_120, li_124, li_127, li_180, li_239, li_240, li_255, li_256, li_300, li_400, li_960, li_1000000, a1, a2]
    · have a1 := ih p (by omega)
      have a2 := hg 15 p (by omega) (by omega) (by omega)
      have b1 := ih q (by omega)
      have b2 := hg 15 q (by omega) (by omega) (by omega)
      simp (disch := omega) only [wr, e5, e6, e7, e, h1, h2, bnd_e, ob_s, su_1, su_2, sl_1, sl_2, ck_n, ck_Z0, ck_Z1, c_lt, c_le, c_eq, ng_1, m_ne, m_en, m_lt, m_le, m_gt, m_ge, n_add, n_mul, n_sub, n_sm, n_pm, n_0m, n_cl, Nat.reduceEqDiff, reduceIte, if_pos, if_neg, if_true, if_false, true_and, and_true, Nat.mul_zero, Nat.zero_add, Nat.add_zero, Nat.reduceAdd, Nat.reduceMul, Nat.reduceSub, li_0, li_1, li_2, li_3, li_4, li_5, li_6, li_7, li_8, li_9, li_10, li_11, li_12, li_13, li_14, li_15, li_16, li_20, li_24, li_28, li_31, li_35, li_38, li_40, li_41, li_45, li_48, li_60, li_62, li_63, li_97, li_100, li_104, li_105, li_120, li_124, li_127, li_180, li_239, li_240, li_255, li_256, li_300, li_400, li_960, li_1000000, a1, a2, b1, b2]
/-- more fuel than the number is enough -/
theorem wr_f {g : Nat → Nat → Int32} {F : Nat} (hF : F ≤ 240) (hp : ∀ j, j < F → ∃ s, s ≤ 5 ∧ g 15 j = nI s ∧ AG j s (g 16 j) (g 17 j)) :
    ∀ n j, j < F → j < n → wr g n j = WT g j := by
  have key : ∀ n m j, j < F → j < n → j < m → wr g n j = wr g m j := by
    intro n
    induction n with
    | zero => intro m j _ h; omega
    | succ n ih =>
      intro m j hj h1 h2
      obtain ⟨m, rfl⟩ : ∃ m', m = m' + 1 := ⟨m - 1, by omega⟩
      obtain ⟨s, hs, e, ha⟩ := hp j hj
      rcases ha with ⟨rfl, l, hl, h1, h2⟩ | ⟨rfl, h1, h2⟩ | ⟨rfl, p, hl, h1, h2⟩ | ⟨h3, h4, p, q, hl, hq, h1, h2⟩
      · simp (disch := omega) only [wr, e, h1, h2, bnd_e, ob_s, su_1, su_2, sl_1, sl_2, ck_n, ck_Z0, ck_Z1, c_lt, c_le, c_eq, ng_1, m_ne, m_en, m_lt, m_le, m_gt, m_ge, n_add, n_mul, n_sub, n_sm, n_pm, n_0m, n_cl, Nat.reduceEqDiff, reduceIte, if_pos, if_neg, if_true, if_false, true_and, and_true, Nat.mul_zero, Nat.zero_add, Nat.add_zero, Nat.reduceAdd, Nat.reduceMul, Nat.reduceSub, li_0, li_1, li_2, li_3, li_4, li_5, li_6, li_7, li_8, li_9, li_10, li_11, li_12, li_13, li_14, li_15, li_16, li_20, li_24, li_28, li_31, li_35, li_38, li_40, li_41, li_45, li_48, li_60, li_62, li_63, li_97, li_100, li_104, li_105, li_120, li_124, li_127, li_180, li_239, li_240, li_255, li_256, li_300, li_400, li_960, li_1000000]
      · simp (disch := omega) only [wr, e, h1, h2, bnd_e, ob_s, su_1, su_2, sl_1, sl_2, ck_n, ck_Z0, ck_Z1, c_lt, c_le, c_eq, ng_1, m_ne, m_en, m_lt, m_le, m_gt, m_ge, n_add, n_mul, n_sub, n_sm, n_pm, n_0m, n_cl, Nat.reduceEqDiff, reduceIte, if_pos, if_neg, if_true, if_false, true_and, and_true, Nat.mul_zero, Nat.zero_add, Nat.add_zero, Nat.reduceAdd, Nat.reduceMul, Nat.reduceSub, li_0, li_1, li_2, li_3, li_4, li_5, li_6, li_7, li_8, li_9, li_10, li_11, li_12, li_13, li_14, li_15, li_16, li_20, li_24, li_28, li_31, li_35, li_38, li_40, li_41, li_45, li_48, li_60, li_62, li_63, li_97, li_100, li_104, li_105, li_120, li_124, li_127, li_180, li_239, li_240, li_255, li_256, li_300, li_400, li_960, li_1000000]
      · have a1 := ih m p (by omega) (by omega) (by omega)
        simp (disch := omega) only [wr, e, h1, h2, bnd_e, ob_s, su_1, su_2, sl_1, sl_2, ck_n, ck_Z0, ck_Z1, c_lt, c_le, c_eq, ng_1, m_ne, m_en, m_lt, m_le, m_gt, m_ge, n_add, n_mul, n_sub, n_sm, n_pm, n_0m, n_cl, Nat.reduceEqDiff, reduceIte, if_pos, if_neg, if_true, if_false, true_and, and_true, Nat.mul_zero, Nat.zero_add, Nat.add_zero, Nat.reduceAdd, Nat.reduceMul, Nat.reduceSub, li_0, li_1, li_2, li_3, li_4, li_5, li_6, li_7, li_8, li_9, li_10, li_11, li_12, li_13, li_14, li_15, li_16, li_20, li_24, li_28, li_31, li_35, li_38, li_40, li_41, li_45, li_48, li_60, li_62, li_63, li_97, li_100, li_104, li_105, li_120, li_124, li_127, li_180, li_239, li_240, li_255, li_256, li_300, li_400, li_960, li_1000000, a1]
      · have a1 := ih m p (by omega) (by omega) (by omega)
        have b1 := ih m q (by omega) (by omega) (by omega)
        simp (disch := omega) only [wr, e, h1, h2, bnd_e, ob_s, su_1, su_2, sl_1, sl_2, ck_n, ck_Z0, ck_Z1, c_lt, c_le, c_eq, ng_1, m_ne, m_en, m_lt, m_le, m_gt, m_ge, n_add, n_mul, n_sub, n_sm, n_pm, n_0m, n_cl, Nat.reduceEqDiff, reduceIte, if_pos, if_neg, if_true, if_false, true_and, and_true, Nat.mul_zero, Nat.zero_add, Nat.add_zero, Nat.reduceAdd, Nat.reduceMul, Nat.reduceSub, li_0, li_1, li_2, li_3, li_4, li_5, li_6, li_7, li_8, li_9, li_10, li_11, li_12, li_13, li_14, li_15, li_16, li_20, li_24, li_28, li_31, li_35, li_38, li_40, li_41, li_45, li_48, li_60, li_62, li_63, li_97, li_100, li_104, li_105, li_120, li_124, li_127, li_180, li_239, li_240, li_255, li_256, li_300, li_400, li_960, li_1000000, a1, b1]
  intro n j hj hn
  exact key n (j + 1) j hj hn (by omega)
theorem RF.ag {F : Nat} {σ τ : St} (h : RF F σ τ) : ∀ j, j < F → ∃ s, s ≤ 5 ∧ τ.1 15 j = nI s ∧ AG j s (τ.1 16 j) (τ.1 17 j) := fun j hj => by
  obtain ⟨s, h1, h2, h3, _⟩ := (h.2.1 j hj).2.1
  exact ⟨s, h1, h2, h3⟩
theorem FJ_c {F : Nat} {σ σ' τ τ' : St} (hF : F ≤ 240) (h : ∀ j, j < F → FJ σ τ j) (hσ : PF F σ σ') (hτ : PM F τ τ') : ∀ j, j < F → FJ σ' τ' j := by
  intro j hj
  have hW : WT τ'.1 j = WT τ.1 j := by
    refine wr_c (F := F) hF (fun c j a b d => hτ.1 c j a (by omega) d) (fun j hj => ?_) _ j hj
    obtain ⟨s, h1, h2, h3, _⟩ := (h j hj).2.1
    exact ⟨s, h1, h2, h3⟩
  obtain ⟨⟨a1, a2, a3, a4, a5⟩, ⟨s, b1, b2, b3, b4, b5, b6, b7⟩, ⟨z, c1, c2, c3⟩, d1, d2⟩ := h j hj
  have e12 := hσ.1 12 j (by omega) (by omega) hj
  have e13 := hσ.1 13 j (by omega) (by omega) hj
  have e14 := hσ.1 14 j (by omega) (by omega) hj
  have e15 := hσ.1 15 j (by omega) (by omega) hj
  have e16 := hσ.1 16 j (by omega) (by omega) hj
  have e17 := hσ.1 17 j (by omega) (by omega) hj
  have f15 := hτ.1 15 j (by omega) (by omega) hj
  have f16 := hτ.1 16 j (by omega) (by omega) hj
  have f17 := hτ.1 17 j (by omega) (by omega) hj
  have f18 := hτ.1 18 j (by omega) (by omega) hj
  have f19 := hτ.1 19 j (by omega) (by omega) hj
  refine ⟨⟨by rw [e12, f15, a1], by rw [e13, f16, a2], by rw [e14, f17, a3], by rw [e15, f18, a4], by rw [e16, f19, a5]⟩, ⟨s, b1, by rw [f15, b2], by rw [f16, f17]; exact b3, fun h0 => by rw [f18, f16, b4 h0], fun h0 => by rw [f18, b5 h0], fun h0 => ?_, fun h0 => ?_⟩, ⟨z, c1, c2, by rw [f19, c3]⟩, by rw [e17, d1, hW], fun q hq => ?_⟩
  · rcases b3 with ⟨r, _⟩ | ⟨r, _⟩ | ⟨_, p, hp, g1, g2⟩ | ⟨r, _⟩
    · omega
    · omega
    · rw [f18, f16, b6 h0, g1, n_cl (by omega : p < 2147483648), hτ.1 18 p (by omega) (by omega) (by omega)]
    · omega
  · rcases b3 with ⟨r, _⟩ | ⟨r, _⟩ | ⟨r, _⟩ | ⟨_, _, p, q, hp, hq, g1, g2⟩
    · omega
    · omega
    · omega
    · rw [f18, f16, f17, b7 h0, g1, g2, n_cl (by omega : p < 2147483648), n_cl (by omega : q < 2147483648), hτ.1 18 p (by omega) (by omega) (by omega), hτ.1 18 q (by omega) (by omega) (by omega)]
  · rw [hτ.2 _ (by omega), hσ.2 _ (by omega)]; exact d2 q hq
/-- fewer formulas, with what stands behind them changed or not -/
theorem RF.cut {F G : Nat} {σ σ' τ τ' : St} (h : RF F σ τ) (hG : G ≤ F) (hσ : PF G σ σ') (hτ : PM G τ τ') (h0 : σ'.1 0 0 = nI G) (h1 : τ'.1 5 0 = nI G) : RF G σ' τ' := by
  refine ⟨⟨by have := h.1.1; omega, h0, h1⟩, FJ_c (by have := h.1.1; omega) (fun j hj => h.2.1 j (by omega)) hσ hτ, fun i j hi hj a b c => ?_⟩
  rw [hτ.1 15 i (by omega) (by omega) hi, hτ.1 15 j (by omega) (by omega) hj] at a
  rw [hτ.1 16 i (by omega) (by omega) hi, hτ.1 16 j (by omega) (by omega) hj] at b
  rw [hτ.1 17 i (by omega) (by omega) hi, hτ.1 17 j (by omega) (by omega) hj] at c
  exact h.2.2 i j (by omega) (by omega) a b c
